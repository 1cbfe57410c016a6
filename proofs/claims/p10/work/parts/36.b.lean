theorem dX12_byBench_0 : decode cX12_byBench 0 = .ok (.aload_n 0, 1) := dc_42 (by decide +kernel)
theorem dX12_byBench_1 : decode cX12_byBench 1 = .ok (.iload 4, 2) := dc_21 4 (by decide +kernel)
theorem dX12_byBench_3 : decode cX12_byBench 3 = .ok (.invokevirtual 93, 3) := dc_182 0 93 (by decide +kernel)
theorem dX12_byBench_6 : decode cX12_byBench 6 = .ok (.iconst 0, 1) := dc_3 (by decide +kernel)
theorem dX12_byBench_7 : decode cX12_byBench 7 = .ok (.istore 5, 2) := dc_54 5 (by decide +kernel)
theorem dX12_byBench_9 : decode cX12_byBench 9 = .ok (.iload 5, 2) := dc_21 5 (by decide +kernel)
theorem dX12_byBench_11 : decode cX12_byBench 11 = .ok (.bipush 40, 2) := dc_16 40 40 (by decide +kernel)
theorem dX12_byBench_13 : decode cX12_byBench 13 = .ok (.if_icmp .ge 26, 3) := dc_162 0 26 26 (by decide +kernel)
theorem dX12_byBench_16 : decode cX12_byBench 16 = .ok (.aload_n 0, 1) := dc_42 (by decide +kernel)
theorem dX12_byBench_17 : decode cX12_byBench 17 = .ok (.getfield 28, 3) := dc_180 0 28 (by decide +kernel)
theorem dX12_byBench_20 : decode cX12_byBench 20 = .ok (.iload 5, 2) := dc_21 5 (by decide +kernel)
theorem dX12_byBench_22 : decode cX12_byBench 22 = .ok (.iload_n 2, 1) := dc_28 (by decide +kernel)
theorem dX12_byBench_23 : decode cX12_byBench 23 = .ok (.iconst 1, 1) := dc_4 (by decide +kernel)
theorem dX12_byBench_24 : decode cX12_byBench 24 = .ok (.if_icmp .ne 7, 3) := dc_160 0 7 7 (by decide +kernel)
theorem dX12_byBench_31 : decode cX12_byBench 31 = .ok (.iconst 0, 1) := dc_3 (by decide +kernel)
theorem dX12_byBench_32 : decode cX12_byBench 32 = .ok (.bastore, 1) := dc_84 (by decide +kernel)
theorem dX12_byBench_33 : decode cX12_byBench 33 = .ok (.iinc 5 1, 3) := dc_132 5 1 1 (by decide +kernel)
theorem dX12_byBench_36 : decode cX12_byBench 36 = .ok (.goto (-27), 3) := dc_167 255 229 (-27) (by decide +kernel)
theorem dX12_byBench_27 : decode cX12_byBench 27 = .ok (.iconst 1, 1) := dc_4 (by decide +kernel)
theorem dX12_byBench_28 : decode cX12_byBench 28 = .ok (.goto 4, 3) := dc_167 0 4 4 (by decide +kernel)
theorem dX12_byBench_39 : decode cX12_byBench 39 = .ok (.aload_n 0, 1) := dc_42 (by decide +kernel)
theorem dX12_byBench_40 : decode cX12_byBench 40 = .ok (.iload_n 1, 1) := dc_27 (by decide +kernel)
theorem dX12_byBench_41 : decode cX12_byBench 41 = .ok (.iload_n 3, 1) := dc_29 (by decide +kernel)
theorem dX12_byBench_42 : decode cX12_byBench 42 = .ok (.invokevirtual 104, 3) := dc_182 0 104 (by decide +kernel)
theorem dX12_byBench_45 : decode cX12_byBench 45 = .ok (.ireturn, 1) := dc_172 (by decide +kernel)
abbrev R_X12_byBench : Room := { frames := 73, cells := 0, slots := 0, locals := 2965 }
set_option maxRecDepth 100000 in
set_option maxHeartbeats 4000000 in
theorem s_X12_byBench {l : Launch} {n0 : Nat} {D : va_G} {cA : Nat → ClassId} {M : gM} (a : Int) (r_a : 0 ≤ a ∧ a ≤ 15) (b : Int) (r_b : 0 ≤ b ∧ b ≤ 1) (c : Int) (r_c : -3000 ≤ c ∧ c ≤ 300) (d : Int) (r_d : -1 ≤ d ∧ d ≤ 80) {sz : Nat} (hsz : 206 ≤ sz) (I : gI sz M) (C : gC sz M) (W : gW 191 M) (hp : a < M 191 1)  : Met l yX12_byBench (gWsOf yX12_byBench cX12_byBench 6 (Option.some Jvm.ClassFile.FieldType.int)) R_X12_byBench (gPc n0 D cA [gA n0 190, gJ a, gJ b, gJ c, gJ d] M sz) (gQi n0 D cA sz (fun z M1 => (-5 ≤ z ∧ z ≤ 5) ∧ gI sz M1 ∧ gC sz M1 ∧ gFr 2475880189251224992055558144 M M1 ∧ (z = -5 ∨ 0 ≤ z))) 0 0 (fun q => n0 ≤ q) := by
  refine gMetI [gA n0 190, gJ a, gJ b, gJ c, gJ d] (by decide) (Nat.le_of_ble_eq_true rfl) ⟨rfl, rfl⟩ ?_
  intro p e s m args below meth cd Q X hq
  have X : gCx p s m args meth cd n0 D cA "ParishUnionModel" cX12_byBench 6 := X
  show G p l e R_X12_byBench s m args below meth cd n0 D cA 6 Q 0 0 M sz 0 [(0, gA n0 190), (1, gJ a), (2, gJ b), (3, gJ c), (4, gJ d)] []
  obtain ⟨v1, hv1, rv1⟩ := gRd I (by decide) (gsz hsz (by decide)) (rs_PERS (k := 1) (by omega)).1
  refine g_aload_n (n := 1) X 0 dX12_byBench_0 rfl rfl rfl ?_
  refine g_iload (n := 3) X 4 dX12_byBench_1 rfl rfl ?_
  refine g_callVv (n := 6) (As := [gJ d]) (rest := []) (cs1 := 0) (ss1 := 0) X (s_X12_looks d (by omega) hsz I C ) okX12_looks kw_6_165 ⟨kw_6_167, kw_0_44⟩ ⟨rfl, rfl⟩ ⟨Nat.le_of_ble_eq_true rfl, Nat.le_of_ble_eq_true rfl⟩ rfl (by decide) (gsz hsz (by decide)) lay_190 rfl rfl (Nat.le_of_ble_eq_true rfl) ⟨Nat.le_of_ble_eq_true rfl, Nat.le_of_ble_eq_true rfl⟩ rfl rfl dX12_byBench_3 rfl (fun M3 P4 => ?_)
  obtain ⟨IM3, CM3, FM3, xM3⟩ := P4
  refine g_iconst (n := 7) X dX12_byBench_6 rfl ?_
  refine g_istore (n := 9) (L' := [(5, gJ 0), (0, gA n0 190), (1, gJ a), (2, gJ b), (3, gJ c), (4, gJ d)]) X dX12_byBench_7 (by decide) rfl rfl ?_
  have j7 : ∀ (N53 : Nat) (v5 : Int) (M6 : gM) , (0 ≤ v5 ∧ v5 ≤ 40) → gI sz M6 → gC sz M6 → gFr 36893488147419103232 M3 M6 → (40 - v5).toNat < N53 → G p l e R_X12_byBench s m args below meth cd n0 D cA 6 Q 0 0 M6 sz 9 [(0, gA n0 190), (1, gJ a), (2, gJ b), (3, gJ c), (5, gJ v5)] [] := by
    intro N53; induction N53 with
    | zero => intro v5 M6 rv5 IM6 CM6 FM6 hm55; exfalso; omega
    | succ N53 ih54 =>
      intro v5 M6 rv5 IM6 CM6 FM6 hm55
      refine g_iload (n := 11) X 4 dX12_byBench_9 rfl rfl ?_
      refine g_bipush (n := 13) X dX12_byBench_11 (by decide +kernel) rfl ?_
      refine g_icmp_ge (n := 16) (tgt := 39) X dX12_byBench_13 (by decide) (by omega) (by omega) rfl (fun c56 => ?_) (fun c56 => ?_)
      · refine g_aload_n (n := 40) X 0 dX12_byBench_39 rfl rfl rfl ?_
        refine g_iload_n (n := 41) X 1 dX12_byBench_40 rfl rfl rfl ?_
        refine g_iload_n (n := 42) X 3 dX12_byBench_41 rfl rfl rfl ?_
        refine g_callVi (n := 45) (As := [gJ a, gJ c]) (rest := []) (cs1 := 0) (ss1 := 0) X (s_X12_whose a (by omega) c (by omega) hsz IM6 CM6 (gW.fr (S := 2475880189251224992055558144) W ⟨sz, hsz, I⟩ (gFr.c (gFr.c gFr.rf FM3 rfl) FM6 rfl) rfl) (by have q2 := ((gFr.at FM6 (rs_PERS (k := 1) (by omega)).2.2 rfl).trans ((gFr.at FM3 (rs_PERS (k := 1) (by omega)).2.2 rfl).trans hv1)); omega)) okX12_whose kw_6_189 ⟨kw_6_191, kw_0_48⟩ ⟨rfl, rfl⟩ ⟨Nat.le_of_ble_eq_true rfl, Nat.le_of_ble_eq_true rfl⟩ rfl (by decide) (gsz hsz (by decide)) lay_190 rfl rfl (Nat.le_of_ble_eq_true rfl) ⟨Nat.le_of_ble_eq_true rfl, Nat.le_of_ble_eq_true rfl⟩ rfl rfl dX12_byBench_42 rfl (fun v57 M58 P59 => ?_)
        obtain ⟨rfl, rv57, xv57⟩ := P59
        exact hq _ _ _ _ dX12_byBench_45 ⟨by omega, IM6, CM6, (gFr.c (gFr.c gFr.rf FM3 rfl) FM6 rfl), by omega⟩
      · refine g_aload_n (n := 17) X 0 dX12_byBench_16 rfl rfl rfl ?_
        refine gg_12_9 (n := 20) (z := 197) X (by decide) (gsz hsz (by decide)) lay_190 kw_6_35 dX12_byBench_17 rfl (rf_190_9 IM6 (gsz hsz (by decide))) (by decide) ?_
        refine g_iload (n := 22) X 4 dX12_byBench_20 rfl rfl ?_
        refine g_iload_n (n := 23) X 2 dX12_byBench_22 rfl rfl rfl ?_
        refine g_iconst (n := 24) X dX12_byBench_23 rfl ?_
        refine g_icmp_ne (n := 27) (tgt := 31) X dX12_byBench_24 (by decide) (by omega) (by omega) rfl (fun c60 => ?_) (fun c60 => ?_)
        · refine g_iconst (n := 32) X dX12_byBench_31 rfl ?_
          refine g_zast (n := 33) (z := 0) X (by decide) (gsz hsz (by decide)) lay_197 (by omega) (by omega) (by decide) (g_zn (by omega)) dX12_byBench_32 rfl ?_
          refine G.nm (fun M61 e62 => ?_)
          have IM61 : gI sz M61 := gI.set IM6 (ra_197 v5).1 (by omega) e62
          have CM61 : gC sz M61 := gC.set CM6 (ra_197 v5).2.1 e62
          refine g_iinc (n := 36) (w := v5 + 1) (L' := [(5, gJ (v5 + 1)), (0, gA n0 190), (1, gJ a), (2, gJ b), (3, gJ c)]) X 4 dX12_byBench_33 rfl rfl (by decide) rfl rfl ?_
          refine g_goto (tgt := 9) X dX12_byBench_36 (by decide) ?_
          refine G.sub (L' := [(0, gA n0 190), (1, gJ a), (2, gJ b), (3, gJ c), (5, gJ (v5 + 1))]) [1, 2, 3, 4, 0] rfl ?_
          exact ih54 (v5 + 1) M61 (by omega) IM61 CM61 (gFr.s (gFr.c gFr.rf FM6 rfl) e62 (ra_197 v5).2.2 rfl) (by omega)
        · refine g_iconst (n := 28) X dX12_byBench_27 rfl ?_
          refine g_goto (tgt := 32) X dX12_byBench_28 (by decide) ?_
          refine g_zast (n := 33) (z := 1) X (by decide) (gsz hsz (by decide)) lay_197 (by omega) (by omega) (by decide) (g_zn (by omega)) dX12_byBench_32 rfl ?_
          refine G.nm (fun M63 e64 => ?_)
          have IM63 : gI sz M63 := gI.set IM6 (ra_197 v5).1 (by omega) e64
          have CM63 : gC sz M63 := gC.set CM6 (ra_197 v5).2.1 e64
          refine g_iinc (n := 36) (w := v5 + 1) (L' := [(5, gJ (v5 + 1)), (0, gA n0 190), (1, gJ a), (2, gJ b), (3, gJ c)]) X 4 dX12_byBench_33 rfl rfl (by decide) rfl rfl ?_
          refine g_goto (tgt := 9) X dX12_byBench_36 (by decide) ?_
          refine G.sub (L' := [(0, gA n0 190), (1, gJ a), (2, gJ b), (3, gJ c), (5, gJ (v5 + 1))]) [1, 2, 3, 4, 0] rfl ?_
          exact ih54 (v5 + 1) M63 (by omega) IM63 CM63 (gFr.s (gFr.c gFr.rf FM6 rfl) e64 (ra_197 v5).2.2 rfl) (by omega)
  refine G.sub (L' := [(0, gA n0 190), (1, gJ a), (2, gJ b), (3, gJ c), (5, gJ 0)]) [1, 2, 3, 4, 0] rfl ?_
  exact j7 _ 0 M3 (by omega) IM3 CM3 gFr.rf (Nat.lt_succ_self _)
theorem dX12_isAtOwn_0 : decode cX12_isAtOwn 0 = .ok (.aload_n 0, 1) := dc_42 (by decide +kernel)
theorem dX12_isAtOwn_1 : decode cX12_isAtOwn 1 = .ok (.getfield 180, 3) := dc_180 0 180 (by decide +kernel)
theorem dX12_isAtOwn_4 : decode cX12_isAtOwn 4 = .ok (.iconst (-1), 1) := dc_2 (by decide +kernel)
theorem dX12_isAtOwn_5 : decode cX12_isAtOwn 5 = .ok (.if_icmp .eq 20, 3) := dc_159 0 20 20 (by decide +kernel)
theorem dX12_isAtOwn_25 : decode cX12_isAtOwn 25 = .ok (.iconst 0, 1) := dc_3 (by decide +kernel)
theorem dX12_isAtOwn_26 : decode cX12_isAtOwn 26 = .ok (.ireturn, 1) := dc_172 (by decide +kernel)
theorem dX12_isAtOwn_8 : decode cX12_isAtOwn 8 = .ok (.aload_n 0, 1) := dc_42 (by decide +kernel)
theorem dX12_isAtOwn_9 : decode cX12_isAtOwn 9 = .ok (.getfield 7, 3) := dc_180 0 7 (by decide +kernel)
theorem dX12_isAtOwn_12 : decode cX12_isAtOwn 12 = .ok (.sipush 160, 3) := dc_17 0 160 160 (by decide +kernel)
theorem dX12_isAtOwn_15 : decode cX12_isAtOwn 15 = .ok (.aload_n 0, 1) := dc_42 (by decide +kernel)
theorem dX12_isAtOwn_16 : decode cX12_isAtOwn 16 = .ok (.getfield 180, 3) := dc_180 0 180 (by decide +kernel)
theorem dX12_isAtOwn_19 : decode cX12_isAtOwn 19 = .ok (.iadd, 1) := dc_96 (by decide +kernel)
theorem dX12_isAtOwn_20 : decode cX12_isAtOwn 20 = .ok (.iaload, 1) := dc_46 (by decide +kernel)
theorem dX12_isAtOwn_21 : decode cX12_isAtOwn 21 = .ok (.iconst 5, 1) := dc_8 (by decide +kernel)
theorem dX12_isAtOwn_22 : decode cX12_isAtOwn 22 = .ok (.if_icmp .le 5, 3) := dc_164 0 5 5 (by decide +kernel)
theorem dX12_isAtOwn_27 : decode cX12_isAtOwn 27 = .ok (.aload_n 0, 1) := dc_42 (by decide +kernel)
theorem dX12_isAtOwn_28 : decode cX12_isAtOwn 28 = .ok (.getfield 41, 3) := dc_180 0 41 (by decide +kernel)
theorem kw_6_44 : (Jvm.Cond.fieldLink "ParishUnionModel" (41 : Nat) "ParishUnionModel" "ownStamp" "[I") ∈ gT := gT_of (tb_6 _ (List.mem_of_getElem? (i := 44) rfl)) rfl
theorem rf_190_18 {sz : Nat} {M : gM} (I : gI sz M) (h : (190 : Int) < (sz : Int)) : M 190 18 = 201 + 1 := gI.rf I (by decide) h (by decide +kernel)
theorem dX12_isAtOwn_31 : decode cX12_isAtOwn 31 = .ok (.aload_n 0, 1) := dc_42 (by decide +kernel)
theorem dX12_isAtOwn_32 : decode cX12_isAtOwn 32 = .ok (.getfield 180, 3) := dc_180 0 180 (by decide +kernel)
theorem dX12_isAtOwn_35 : decode cX12_isAtOwn 35 = .ok (.iaload, 1) := dc_46 (by decide +kernel)
theorem ra_201 (k : Int) : gRg 201 k = (-2147483648, 2147483647) ∧ gCr 201 k = false ∧ gG 201 k = 65 := ⟨rfl, rfl, rfl⟩
theorem dX12_isAtOwn_36 : decode cX12_isAtOwn 36 = .ok (.aload_n 0, 1) := dc_42 (by decide +kernel)
theorem dX12_isAtOwn_37 : decode cX12_isAtOwn 37 = .ok (.getfield 44, 3) := dc_180 0 44 (by decide +kernel)
theorem dX12_isAtOwn_40 : decode cX12_isAtOwn 40 = .ok (.if_icmp .ne 21, 3) := dc_160 0 21 21 (by decide +kernel)
theorem dX12_isAtOwn_61 : decode cX12_isAtOwn 61 = .ok (.aload_n 0, 1) := dc_42 (by decide +kernel)
theorem dX12_isAtOwn_62 : decode cX12_isAtOwn 62 = .ok (.getfield 35, 3) := dc_180 0 35 (by decide +kernel)
theorem kw_6_42 : (Jvm.Cond.fieldLink "ParishUnionModel" (35 : Nat) "ParishUnionModel" "ownOf" "[I") ∈ gT := gT_of (tb_6 _ (List.mem_of_getElem? (i := 42) rfl)) rfl
theorem rf_190_16 {sz : Nat} {M : gM} (I : gI sz M) (h : (190 : Int) < (sz : Int)) : M 190 16 = 199 + 1 := gI.rf I (by decide) h (by decide +kernel)
theorem dX12_isAtOwn_65 : decode cX12_isAtOwn 65 = .ok (.aload_n 0, 1) := dc_42 (by decide +kernel)
theorem dX12_isAtOwn_66 : decode cX12_isAtOwn 66 = .ok (.getfield 180, 3) := dc_180 0 180 (by decide +kernel)
theorem dX12_isAtOwn_69 : decode cX12_isAtOwn 69 = .ok (.aload_n 0, 1) := dc_42 (by decide +kernel)
theorem dX12_isAtOwn_70 : decode cX12_isAtOwn 70 = .ok (.aload_n 0, 1) := dc_42 (by decide +kernel)
theorem dX12_isAtOwn_71 : decode cX12_isAtOwn 71 = .ok (.getfield 180, 3) := dc_180 0 180 (by decide +kernel)
theorem dX12_isAtOwn_74 : decode cX12_isAtOwn 74 = .ok (.iconst 1, 1) := dc_4 (by decide +kernel)
theorem dX12_isAtOwn_75 : decode cX12_isAtOwn 75 = .ok (.aload_n 0, 1) := dc_42 (by decide +kernel)
theorem dX12_isAtOwn_76 : decode cX12_isAtOwn 76 = .ok (.getfield 7, 3) := dc_180 0 7 (by decide +kernel)
theorem dX12_isAtOwn_79 : decode cX12_isAtOwn 79 = .ok (.iconst 0, 1) := dc_3 (by decide +kernel)
theorem dX12_isAtOwn_80 : decode cX12_isAtOwn 80 = .ok (.iaload, 1) := dc_46 (by decide +kernel)
theorem dX12_isAtOwn_81 : decode cX12_isAtOwn 81 = .ok (.iconst (-1), 1) := dc_2 (by decide +kernel)
theorem dX12_isAtOwn_82 : decode cX12_isAtOwn 82 = .ok (.invokevirtual 116, 3) := dc_182 0 116 (by decide +kernel)
theorem kw_6_185 : (Jvm.Cond.methodLink "ParishUnionModel" (116 : Nat) ({ cls := "ParishUnionModel", name := "byBench", desc := "(IIII)I" } : Jvm.MethodName)) ∈ gT := gT_of (tb_6 _ (List.mem_of_getElem? (i := 185) rfl)) rfl
theorem kw_6_188 : (Jvm.Cond.code ({ cls := "ParishUnionModel", name := "byBench", desc := "(IIII)I" } : Jvm.MethodName) prog_14_method_29_code (6 : Nat) (Option.some Jvm.ClassFile.FieldType.int)) ∈ gT := gT_of (tb_6 _ (List.mem_of_getElem? (i := 188) rfl)) rfl
theorem okX12_byBench : gQok yX12_byBench cX12_byBench 6 (Option.some Jvm.ClassFile.FieldType.int) 4 := ⟨kw_6_188, kw_1_13, by decide +kernel, by decide +kernel, by decide +kernel⟩
theorem kw_6_187 : (Jvm.Cond.instanceMethod ({ cls := "ParishUnionModel", name := "byBench", desc := "(IIII)I" } : Jvm.MethodName)) ∈ gT := gT_of (tb_6 _ (List.mem_of_getElem? (i := 187) rfl)) rfl
theorem kw_0_47 : (Jvm.Cond.selects "ParishUnionModel" ({ cls := "ParishUnionModel", name := "byBench", desc := "(IIII)I" } : Jvm.MethodName) ({ cls := "ParishUnionModel", name := "byBench", desc := "(IIII)I" } : Jvm.MethodName)) ∈ gT := gT_of (tb_0 _ (List.mem_of_getElem? (i := 47) rfl)) rfl
theorem dX12_isAtOwn_85 : decode cX12_isAtOwn 85 = .ok (.iastore, 1) := dc_79 (by decide +kernel)
theorem ra_199 (k : Int) : gRg 199 k = (-2147483648, 2147483647) ∧ gCr 199 k = false ∧ gG 199 k = 65 := ⟨rfl, rfl, rfl⟩
theorem dX12_isAtOwn_86 : decode cX12_isAtOwn 86 = .ok (.aload_n 0, 1) := dc_42 (by decide +kernel)
theorem dX12_isAtOwn_87 : decode cX12_isAtOwn 87 = .ok (.getfield 41, 3) := dc_180 0 41 (by decide +kernel)
theorem dX12_isAtOwn_90 : decode cX12_isAtOwn 90 = .ok (.aload_n 0, 1) := dc_42 (by decide +kernel)
theorem dX12_isAtOwn_91 : decode cX12_isAtOwn 91 = .ok (.getfield 180, 3) := dc_180 0 180 (by decide +kernel)
theorem dX12_isAtOwn_94 : decode cX12_isAtOwn 94 = .ok (.aload_n 0, 1) := dc_42 (by decide +kernel)
theorem dX12_isAtOwn_95 : decode cX12_isAtOwn 95 = .ok (.getfield 44, 3) := dc_180 0 44 (by decide +kernel)
theorem dX12_isAtOwn_98 : decode cX12_isAtOwn 98 = .ok (.iastore, 1) := dc_79 (by decide +kernel)
theorem dX12_isAtOwn_99 : decode cX12_isAtOwn 99 = .ok (.aload_n 0, 1) := dc_42 (by decide +kernel)
theorem dX12_isAtOwn_100 : decode cX12_isAtOwn 100 = .ok (.getfield 38, 3) := dc_180 0 38 (by decide +kernel)
theorem kw_6_43 : (Jvm.Cond.fieldLink "ParishUnionModel" (38 : Nat) "ParishUnionModel" "ownWeek" "[I") ∈ gT := gT_of (tb_6 _ (List.mem_of_getElem? (i := 43) rfl)) rfl
theorem rf_190_17 {sz : Nat} {M : gM} (I : gI sz M) (h : (190 : Int) < (sz : Int)) : M 190 17 = 200 + 1 := gI.rf I (by decide) h (by decide +kernel)
theorem dX12_isAtOwn_103 : decode cX12_isAtOwn 103 = .ok (.aload_n 0, 1) := dc_42 (by decide +kernel)
theorem dX12_isAtOwn_104 : decode cX12_isAtOwn 104 = .ok (.getfield 180, 3) := dc_180 0 180 (by decide +kernel)
theorem dX12_isAtOwn_107 : decode cX12_isAtOwn 107 = .ok (.aload_n 0, 1) := dc_42 (by decide +kernel)
theorem dX12_isAtOwn_108 : decode cX12_isAtOwn 108 = .ok (.getfield 7, 3) := dc_180 0 7 (by decide +kernel)
theorem dX12_isAtOwn_111 : decode cX12_isAtOwn 111 = .ok (.iconst 0, 1) := dc_3 (by decide +kernel)
theorem dX12_isAtOwn_112 : decode cX12_isAtOwn 112 = .ok (.iaload, 1) := dc_46 (by decide +kernel)
theorem dX12_isAtOwn_113 : decode cX12_isAtOwn 113 = .ok (.iastore, 1) := dc_79 (by decide +kernel)
theorem ra_200 (k : Int) : gRg 200 k = (-2147483648, 2147483647) ∧ gCr 200 k = false ∧ gG 200 k = 65 := ⟨rfl, rfl, rfl⟩
theorem dX12_isAtOwn_114 : decode cX12_isAtOwn 114 = .ok (.aload_n 0, 1) := dc_42 (by decide +kernel)
theorem dX12_isAtOwn_115 : decode cX12_isAtOwn 115 = .ok (.getfield 35, 3) := dc_180 0 35 (by decide +kernel)
theorem dX12_isAtOwn_118 : decode cX12_isAtOwn 118 = .ok (.aload_n 0, 1) := dc_42 (by decide +kernel)
theorem dX12_isAtOwn_119 : decode cX12_isAtOwn 119 = .ok (.getfield 180, 3) := dc_180 0 180 (by decide +kernel)
theorem dX12_isAtOwn_122 : decode cX12_isAtOwn 122 = .ok (.iaload, 1) := dc_46 (by decide +kernel)
theorem dX12_isAtOwn_123 : decode cX12_isAtOwn 123 = .ok (.aload_n 0, 1) := dc_42 (by decide +kernel)
theorem dX12_isAtOwn_124 : decode cX12_isAtOwn 124 = .ok (.getfield 7, 3) := dc_180 0 7 (by decide +kernel)
theorem dX12_isAtOwn_127 : decode cX12_isAtOwn 127 = .ok (.sipush 160, 3) := dc_17 0 160 160 (by decide +kernel)
theorem dX12_isAtOwn_130 : decode cX12_isAtOwn 130 = .ok (.aload_n 0, 1) := dc_42 (by decide +kernel)
theorem dX12_isAtOwn_131 : decode cX12_isAtOwn 131 = .ok (.getfield 180, 3) := dc_180 0 180 (by decide +kernel)
theorem dX12_isAtOwn_134 : decode cX12_isAtOwn 134 = .ok (.iadd, 1) := dc_96 (by decide +kernel)
theorem dX12_isAtOwn_135 : decode cX12_isAtOwn 135 = .ok (.iaload, 1) := dc_46 (by decide +kernel)
theorem dX12_isAtOwn_136 : decode cX12_isAtOwn 136 = .ok (.if_icmp .ne 7, 3) := dc_160 0 7 7 (by decide +kernel)
theorem dX12_isAtOwn_143 : decode cX12_isAtOwn 143 = .ok (.iconst 0, 1) := dc_3 (by decide +kernel)
theorem dX12_isAtOwn_144 : decode cX12_isAtOwn 144 = .ok (.ireturn, 1) := dc_172 (by decide +kernel)
theorem dX12_isAtOwn_139 : decode cX12_isAtOwn 139 = .ok (.iconst 1, 1) := dc_4 (by decide +kernel)
theorem dX12_isAtOwn_140 : decode cX12_isAtOwn 140 = .ok (.goto 4, 3) := dc_167 0 4 4 (by decide +kernel)
theorem dX12_isAtOwn_43 : decode cX12_isAtOwn 43 = .ok (.aload_n 0, 1) := dc_42 (by decide +kernel)
theorem dX12_isAtOwn_44 : decode cX12_isAtOwn 44 = .ok (.getfield 38, 3) := dc_180 0 38 (by decide +kernel)
theorem dX12_isAtOwn_47 : decode cX12_isAtOwn 47 = .ok (.aload_n 0, 1) := dc_42 (by decide +kernel)
theorem dX12_isAtOwn_48 : decode cX12_isAtOwn 48 = .ok (.getfield 180, 3) := dc_180 0 180 (by decide +kernel)
theorem dX12_isAtOwn_51 : decode cX12_isAtOwn 51 = .ok (.iaload, 1) := dc_46 (by decide +kernel)
theorem dX12_isAtOwn_52 : decode cX12_isAtOwn 52 = .ok (.aload_n 0, 1) := dc_42 (by decide +kernel)
theorem dX12_isAtOwn_53 : decode cX12_isAtOwn 53 = .ok (.getfield 7, 3) := dc_180 0 7 (by decide +kernel)
theorem dX12_isAtOwn_56 : decode cX12_isAtOwn 56 = .ok (.iconst 0, 1) := dc_3 (by decide +kernel)
theorem dX12_isAtOwn_57 : decode cX12_isAtOwn 57 = .ok (.iaload, 1) := dc_46 (by decide +kernel)
theorem dX12_isAtOwn_58 : decode cX12_isAtOwn 58 = .ok (.if_icmp .eq 56, 3) := dc_159 0 56 56 (by decide +kernel)
abbrev R_X12_isAtOwn : Room := { frames := 74, cells := 0, slots := 0, locals := 2990 }
set_option maxRecDepth 100000 in
set_option maxHeartbeats 4000000 in
theorem s_X12_isAtOwn {l : Launch} {n0 : Nat} {D : va_G} {cA : Nat → ClassId} {M : gM}  {sz : Nat} (hsz : 206 ≤ sz) (I : gI sz M) (C : gC sz M) (W : gW 191 M) (hk : M 190 15 = -1 ∨ M 190 15 < M 191 1)  : Met l yX12_isAtOwn (gWsOf yX12_isAtOwn cX12_isAtOwn 1 (Option.some Jvm.ClassFile.FieldType.boolean)) R_X12_isAtOwn (gPc n0 D cA [gA n0 190] M sz) (gQi n0 D cA sz (fun z M1 => (0 ≤ z ∧ z ≤ 1) ∧ gI sz M1 ∧ gC sz M1 ∧ gFr 2475880189251224992055558144 M M1)) 0 0 (fun q => n0 ≤ q) := by
  refine gMetZ [gA n0 190] (by decide) (Nat.le_of_ble_eq_true rfl) ⟨rfl, rfl⟩ ?_
  intro p e s m args below meth cd Q X hq
  have X : gCx p s m args meth cd n0 D cA "ParishUnionModel" cX12_isAtOwn 1 := X
  show G p l e R_X12_isAtOwn s m args below meth cd n0 D cA 1 Q 0 0 M sz 0 [(0, gA n0 190)] []
  obtain ⟨v1, hv1, rv1⟩ := gRd I (by decide) (gsz hsz (by decide)) rc_190_15.1
  obtain ⟨v2, hv2, rv2⟩ := gRd I (by decide) (gsz hsz (by decide)) (rs_PERS (k := 1) (by omega)).1
  refine g_aload_n (n := 1) X 0 dX12_isAtOwn_0 rfl rfl rfl ?_
  refine gg_12_15 (n := 4) (z := v1) X (by decide) (gsz hsz (by decide)) lay_190 kw_6_41 dX12_isAtOwn_1 rfl hv1 ?_
  refine g_iconst (n := 5) X dX12_isAtOwn_4 rfl ?_
  refine g_icmp_eq (n := 8) (tgt := 25) X dX12_isAtOwn_5 (by decide) (by omega) (by omega) rfl (fun c3 => ?_) (fun c3 => ?_)
  · refine g_iconst (n := 26) X dX12_isAtOwn_25 rfl ?_
    exact hq _ _ _ _ dX12_isAtOwn_26 (by omega) ⟨by omega, I, C, gFr.rf⟩
  · refine g_aload_n (n := 9) X 0 dX12_isAtOwn_8 rfl rfl rfl ?_
    refine gg_12_1 (n := 12) (z := 191) X (by decide) (gsz hsz (by decide)) lay_190 kw_6_27 dX12_isAtOwn_9 rfl (rf_190_1 I (gsz hsz (by decide))) (by decide) ?_
    refine g_sipush (n := 15) X dX12_isAtOwn_12 (by decide +kernel) rfl ?_
    refine g_aload_n (n := 16) X 0 dX12_isAtOwn_15 rfl rfl rfl ?_
    refine gg_12_15 (n := 19) (z := v1) X (by decide) (gsz hsz (by decide)) lay_190 kw_6_41 dX12_isAtOwn_16 rfl hv1 ?_
    refine g_iadd (n := 20) (z := v1 + 160) X dX12_isAtOwn_19 (by omega) rfl ?_
    obtain ⟨v4, hv4, rv4⟩ := gRd I (by decide) (gsz hsz (by decide)) (rs_AT (k := v1 + 160) (by omega)).1
    refine g_iald2 (n := 21) (v := v4) X (by decide) (gsz hsz (by decide)) lay_191 (by omega) (by omega) (by decide) dX12_isAtOwn_20 rfl hv4 ?_
    refine g_iconst (n := 22) X dX12_isAtOwn_21 rfl ?_
    refine g_icmp_le (n := 25) (tgt := 27) X dX12_isAtOwn_22 (by decide) (by omega) (by omega) rfl (fun c5 => ?_) (fun c5 => ?_)
    · refine g_aload_n (n := 28) X 0 dX12_isAtOwn_27 rfl rfl rfl ?_
      refine gg_12_18 (n := 31) (z := 201) X (by decide) (gsz hsz (by decide)) lay_190 kw_6_44 dX12_isAtOwn_28 rfl (rf_190_18 I (gsz hsz (by decide))) (by decide) ?_
      refine g_aload_n (n := 32) X 0 dX12_isAtOwn_31 rfl rfl rfl ?_
      refine gg_12_15 (n := 35) (z := v1) X (by decide) (gsz hsz (by decide)) lay_190 kw_6_41 dX12_isAtOwn_32 rfl hv1 ?_
      obtain ⟨v6, hv6, rv6⟩ := gRd I (by decide) (gsz hsz (by decide)) (ra_201 v1).1
      refine g_iald2 (n := 36) (v := v6) X (by decide) (gsz hsz (by decide)) lay_201 (by omega) (by omega) (by decide) dX12_isAtOwn_35 rfl hv6 ?_
      refine g_aload_n (n := 37) X 0 dX12_isAtOwn_36 rfl rfl rfl ?_
      obtain ⟨v7, hv7, rv7⟩ := gRd I (by decide) (gsz hsz (by decide)) rc_190_19.1
      refine gg_12_19 (n := 40) (z := v7) X (by decide) (gsz hsz (by decide)) lay_190 kw_6_45 dX12_isAtOwn_37 rfl hv7 ?_
      refine g_icmp_ne (n := 43) (tgt := 61) X dX12_isAtOwn_40 (by decide) (by omega) (by omega) rfl (fun c8 => ?_) (fun c8 => ?_)
      · refine g_aload_n (n := 62) X 0 dX12_isAtOwn_61 rfl rfl rfl ?_
        refine gg_12_16 (n := 65) (z := 199) X (by decide) (gsz hsz (by decide)) lay_190 kw_6_42 dX12_isAtOwn_62 rfl (rf_190_16 I (gsz hsz (by decide))) (by decide) ?_
        refine g_aload_n (n := 66) X 0 dX12_isAtOwn_65 rfl rfl rfl ?_
        refine gg_12_15 (n := 69) (z := v1) X (by decide) (gsz hsz (by decide)) lay_190 kw_6_41 dX12_isAtOwn_66 rfl hv1 ?_
        refine g_aload_n (n := 70) X 0 dX12_isAtOwn_69 rfl rfl rfl ?_
        refine g_aload_n (n := 71) X 0 dX12_isAtOwn_70 rfl rfl rfl ?_
        refine gg_12_15 (n := 74) (z := v1) X (by decide) (gsz hsz (by decide)) lay_190 kw_6_41 dX12_isAtOwn_71 rfl hv1 ?_
        refine g_iconst (n := 75) X dX12_isAtOwn_74 rfl ?_
        refine g_aload_n (n := 76) X 0 dX12_isAtOwn_75 rfl rfl rfl ?_
        refine gg_12_1 (n := 79) (z := 191) X (by decide) (gsz hsz (by decide)) lay_190 kw_6_27 dX12_isAtOwn_76 rfl (rf_190_1 I (gsz hsz (by decide))) (by decide) ?_
        refine g_iconst (n := 80) X dX12_isAtOwn_79 rfl ?_
        obtain ⟨v9, hv9, rv9⟩ := gRd I (by decide) (gsz hsz (by decide)) (rs_NOW (k := 0) (by omega)).1
        refine g_iald2 (n := 81) (v := v9) X (by decide) (gsz hsz (by decide)) lay_191 (by omega) (by omega) (by decide) dX12_isAtOwn_80 rfl hv9 ?_
        refine g_iconst (n := 82) X dX12_isAtOwn_81 rfl ?_
        refine g_callVi (n := 85) (As := [gJ v1, gJ 1, gJ v9, gJ (-1)]) (rest := [gJ v1, gA n0 199]) (cs1 := 0) (ss1 := 0) X (s_X12_byBench v1 (by omega) 1 (by omega) v9 (by omega) (-1) (by omega) hsz I C W (by have q2 := hv2; omega)) okX12_byBench kw_6_185 ⟨kw_6_187, kw_0_47⟩ ⟨rfl, rfl⟩ ⟨Nat.le_of_ble_eq_true rfl, Nat.le_of_ble_eq_true rfl⟩ rfl (by decide) (gsz hsz (by decide)) lay_190 rfl rfl (Nat.le_of_ble_eq_true rfl) ⟨Nat.le_of_ble_eq_true rfl, Nat.le_of_ble_eq_true rfl⟩ rfl rfl dX12_isAtOwn_82 rfl (fun v10 M11 P12 => ?_)
        obtain ⟨rv10, IM11, CM11, FM11, xM11⟩ := P12
        refine g_iast (n := 86) X (by decide) (gsz hsz (by decide)) lay_199 (by omega) (by omega) (by decide) dX12_isAtOwn_85 rfl ?_
        refine G.nm (fun M13 e14 => ?_)
        have IM13 : gI sz M13 := gI.set IM11 (ra_199 v1).1 (by omega) e14
        have CM13 : gC sz M13 := gC.set CM11 (ra_199 v1).2.1 e14
        refine g_aload_n (n := 87) X 0 dX12_isAtOwn_86 rfl rfl rfl ?_
        refine gg_12_18 (n := 90) (z := 201) X (by decide) (gsz hsz (by decide)) lay_190 kw_6_44 dX12_isAtOwn_87 rfl (rf_190_18 IM13 (gsz hsz (by decide))) (by decide) ?_
        refine g_aload_n (n := 91) X 0 dX12_isAtOwn_90 rfl rfl rfl ?_
        refine gg_12_15 (n := 94) (z := v1) X (by decide) (gsz hsz (by decide)) lay_190 kw_6_41 dX12_isAtOwn_91 rfl ((congrFun (congrFun e14 _) _).trans ((gset_ne (by omega)).trans ((gFr.at FM11 rc_190_15.2.2 rfl).trans hv1))) ?_
        refine g_aload_n (n := 95) X 0 dX12_isAtOwn_94 rfl rfl rfl ?_
        refine gg_12_19 (n := 98) (z := v7) X (by decide) (gsz hsz (by decide)) lay_190 kw_6_45 dX12_isAtOwn_95 rfl ((congrFun (congrFun e14 _) _).trans ((gset_ne (by omega)).trans ((gFr.at FM11 rc_190_19.2.2 rfl).trans hv7))) ?_
        refine g_iast (n := 99) X (by decide) (gsz hsz (by decide)) lay_201 (by omega) (by omega) (by decide) dX12_isAtOwn_98 rfl ?_
        refine G.nm (fun M15 e16 => ?_)
        have IM15 : gI sz M15 := gI.set IM13 (ra_201 v1).1 (by omega) e16
        have CM15 : gC sz M15 := gC.set CM13 (ra_201 v1).2.1 e16
        refine g_aload_n (n := 100) X 0 dX12_isAtOwn_99 rfl rfl rfl ?_
        refine gg_12_17 (n := 103) (z := 200) X (by decide) (gsz hsz (by decide)) lay_190 kw_6_43 dX12_isAtOwn_100 rfl (rf_190_17 IM15 (gsz hsz (by decide))) (by decide) ?_
        refine g_aload_n (n := 104) X 0 dX12_isAtOwn_103 rfl rfl rfl ?_
        refine gg_12_15 (n := 107) (z := v1) X (by decide) (gsz hsz (by decide)) lay_190 kw_6_41 dX12_isAtOwn_104 rfl ((congrFun (congrFun e16 _) _).trans ((gset_ne (by omega)).trans ((congrFun (congrFun e14 _) _).trans ((gset_ne (by omega)).trans ((gFr.at FM11 rc_190_15.2.2 rfl).trans hv1))))) ?_
        refine g_aload_n (n := 108) X 0 dX12_isAtOwn_107 rfl rfl rfl ?_
        refine gg_12_1 (n := 111) (z := 191) X (by decide) (gsz hsz (by decide)) lay_190 kw_6_27 dX12_isAtOwn_108 rfl (rf_190_1 IM15 (gsz hsz (by decide))) (by decide) ?_
        refine g_iconst (n := 112) X dX12_isAtOwn_111 rfl ?_
        refine g_iald2 (n := 113) (v := v9) X (by decide) (gsz hsz (by decide)) lay_191 (by omega) (by omega) (by decide) dX12_isAtOwn_112 rfl ((congrFun (congrFun e16 _) _).trans ((gset_ne (by omega)).trans ((congrFun (congrFun e14 _) _).trans ((gset_ne (by omega)).trans ((gFr.at FM11 (rs_NOW (k := 0) (by omega)).2.2 rfl).trans hv9))))) ?_
        refine g_iast (n := 114) X (by decide) (gsz hsz (by decide)) lay_200 (by omega) (by omega) (by decide) dX12_isAtOwn_113 rfl ?_
        refine G.nm (fun M17 e18 => ?_)
        have IM17 : gI sz M17 := gI.set IM15 (ra_200 v1).1 (by omega) e18
        have CM17 : gC sz M17 := gC.set CM15 (ra_200 v1).2.1 e18
        refine g_aload_n (n := 115) X 0 dX12_isAtOwn_114 rfl rfl rfl ?_
        refine gg_12_16 (n := 118) (z := 199) X (by decide) (gsz hsz (by decide)) lay_190 kw_6_42 dX12_isAtOwn_115 rfl (rf_190_16 IM17 (gsz hsz (by decide))) (by decide) ?_
        refine g_aload_n (n := 119) X 0 dX12_isAtOwn_118 rfl rfl rfl ?_
        refine gg_12_15 (n := 122) (z := v1) X (by decide) (gsz hsz (by decide)) lay_190 kw_6_41 dX12_isAtOwn_119 rfl ((congrFun (congrFun e18 _) _).trans ((gset_ne (by omega)).trans ((congrFun (congrFun e16 _) _).trans ((gset_ne (by omega)).trans ((congrFun (congrFun e14 _) _).trans ((gset_ne (by omega)).trans ((gFr.at FM11 rc_190_15.2.2 rfl).trans hv1))))))) ?_
        refine g_iald2 (n := 123) (v := v10) X (by decide) (gsz hsz (by decide)) lay_199 (by omega) (by omega) (by decide) dX12_isAtOwn_122 rfl ((congrFun (congrFun e18 _) _).trans ((gset_ne (by omega)).trans ((congrFun (congrFun e16 _) _).trans ((gset_ne (by omega)).trans ((congrFun (congrFun e14 _) _).trans (gset_eq _ _ _ _)))))) ?_
        refine g_aload_n (n := 124) X 0 dX12_isAtOwn_123 rfl rfl rfl ?_
        refine gg_12_1 (n := 127) (z := 191) X (by decide) (gsz hsz (by decide)) lay_190 kw_6_27 dX12_isAtOwn_124 rfl (rf_190_1 IM17 (gsz hsz (by decide))) (by decide) ?_
        refine g_sipush (n := 130) X dX12_isAtOwn_127 (by decide +kernel) rfl ?_
        refine g_aload_n (n := 131) X 0 dX12_isAtOwn_130 rfl rfl rfl ?_
        refine gg_12_15 (n := 134) (z := v1) X (by decide) (gsz hsz (by decide)) lay_190 kw_6_41 dX12_isAtOwn_131 rfl ((congrFun (congrFun e18 _) _).trans ((gset_ne (by omega)).trans ((congrFun (congrFun e16 _) _).trans ((gset_ne (by omega)).trans ((congrFun (congrFun e14 _) _).trans ((gset_ne (by omega)).trans ((gFr.at FM11 rc_190_15.2.2 rfl).trans hv1))))))) ?_
        refine g_iadd (n := 135) (z := v1 + 160) X dX12_isAtOwn_134 (by omega) rfl ?_
        refine g_iald2 (n := 136) (v := v4) X (by decide) (gsz hsz (by decide)) lay_191 (by omega) (by omega) (by decide) dX12_isAtOwn_135 rfl ((congrFun (congrFun e18 _) _).trans ((gset_ne (by omega)).trans ((congrFun (congrFun e16 _) _).trans ((gset_ne (by omega)).trans ((congrFun (congrFun e14 _) _).trans ((gset_ne (by omega)).trans ((gFr.at FM11 (rs_AT (k := v1 + 160) (by omega)).2.2 rfl).trans hv4))))))) ?_
        refine g_icmp_ne (n := 139) (tgt := 143) X dX12_isAtOwn_136 (by decide) (by omega) (by omega) rfl (fun c19 => ?_) (fun c19 => ?_)
        · refine g_iconst (n := 144) X dX12_isAtOwn_143 rfl ?_
          exact hq _ _ _ _ dX12_isAtOwn_144 (by omega) ⟨by omega, IM17, CM17, (gFr.s (gFr.s (gFr.s (gFr.c gFr.rf FM11 rfl) e14 (ra_199 v1).2.2 rfl) e16 (ra_201 v1).2.2 rfl) e18 (ra_200 v1).2.2 rfl)⟩
        · refine g_iconst (n := 140) X dX12_isAtOwn_139 rfl ?_
          refine g_goto (tgt := 144) X dX12_isAtOwn_140 (by decide) ?_
          exact hq _ _ _ _ dX12_isAtOwn_144 (by omega) ⟨by omega, IM17, CM17, (gFr.s (gFr.s (gFr.s (gFr.c gFr.rf FM11 rfl) e14 (ra_199 v1).2.2 rfl) e16 (ra_201 v1).2.2 rfl) e18 (ra_200 v1).2.2 rfl)⟩
      · refine g_aload_n (n := 44) X 0 dX12_isAtOwn_43 rfl rfl rfl ?_
        refine gg_12_17 (n := 47) (z := 200) X (by decide) (gsz hsz (by decide)) lay_190 kw_6_43 dX12_isAtOwn_44 rfl (rf_190_17 I (gsz hsz (by decide))) (by decide) ?_
        refine g_aload_n (n := 48) X 0 dX12_isAtOwn_47 rfl rfl rfl ?_
        refine gg_12_15 (n := 51) (z := v1) X (by decide) (gsz hsz (by decide)) lay_190 kw_6_41 dX12_isAtOwn_48 rfl hv1 ?_
        obtain ⟨v20, hv20, rv20⟩ := gRd I (by decide) (gsz hsz (by decide)) (ra_200 v1).1
        refine g_iald2 (n := 52) (v := v20) X (by decide) (gsz hsz (by decide)) lay_200 (by omega) (by omega) (by decide) dX12_isAtOwn_51 rfl hv20 ?_
        refine g_aload_n (n := 53) X 0 dX12_isAtOwn_52 rfl rfl rfl ?_
        refine gg_12_1 (n := 56) (z := 191) X (by decide) (gsz hsz (by decide)) lay_190 kw_6_27 dX12_isAtOwn_53 rfl (rf_190_1 I (gsz hsz (by decide))) (by decide) ?_
        refine g_iconst (n := 57) X dX12_isAtOwn_56 rfl ?_
        obtain ⟨v21, hv21, rv21⟩ := gRd I (by decide) (gsz hsz (by decide)) (rs_NOW (k := 0) (by omega)).1
        refine g_iald2 (n := 58) (v := v21) X (by decide) (gsz hsz (by decide)) lay_191 (by omega) (by omega) (by decide) dX12_isAtOwn_57 rfl hv21 ?_
        refine g_icmp_eq (n := 61) (tgt := 114) X dX12_isAtOwn_58 (by decide) (by omega) (by omega) rfl (fun c22 => ?_) (fun c22 => ?_)
        · refine g_aload_n (n := 115) X 0 dX12_isAtOwn_114 rfl rfl rfl ?_
          refine gg_12_16 (n := 118) (z := 199) X (by decide) (gsz hsz (by decide)) lay_190 kw_6_42 dX12_isAtOwn_115 rfl (rf_190_16 I (gsz hsz (by decide))) (by decide) ?_
          refine g_aload_n (n := 119) X 0 dX12_isAtOwn_118 rfl rfl rfl ?_
          refine gg_12_15 (n := 122) (z := v1) X (by decide) (gsz hsz (by decide)) lay_190 kw_6_41 dX12_isAtOwn_119 rfl hv1 ?_
          obtain ⟨v23, hv23, rv23⟩ := gRd I (by decide) (gsz hsz (by decide)) (ra_199 v1).1
          refine g_iald2 (n := 123) (v := v23) X (by decide) (gsz hsz (by decide)) lay_199 (by omega) (by omega) (by decide) dX12_isAtOwn_122 rfl hv23 ?_
          refine g_aload_n (n := 124) X 0 dX12_isAtOwn_123 rfl rfl rfl ?_
          refine gg_12_1 (n := 127) (z := 191) X (by decide) (gsz hsz (by decide)) lay_190 kw_6_27 dX12_isAtOwn_124 rfl (rf_190_1 I (gsz hsz (by decide))) (by decide) ?_
          refine g_sipush (n := 130) X dX12_isAtOwn_127 (by decide +kernel) rfl ?_
          refine g_aload_n (n := 131) X 0 dX12_isAtOwn_130 rfl rfl rfl ?_
          refine gg_12_15 (n := 134) (z := v1) X (by decide) (gsz hsz (by decide)) lay_190 kw_6_41 dX12_isAtOwn_131 rfl hv1 ?_
          refine g_iadd (n := 135) (z := v1 + 160) X dX12_isAtOwn_134 (by omega) rfl ?_
          refine g_iald2 (n := 136) (v := v4) X (by decide) (gsz hsz (by decide)) lay_191 (by omega) (by omega) (by decide) dX12_isAtOwn_135 rfl hv4 ?_
          refine g_icmp_ne (n := 139) (tgt := 143) X dX12_isAtOwn_136 (by decide) (by omega) (by omega) rfl (fun c24 => ?_) (fun c24 => ?_)
          · refine g_iconst (n := 144) X dX12_isAtOwn_143 rfl ?_
            exact hq _ _ _ _ dX12_isAtOwn_144 (by omega) ⟨by omega, I, C, gFr.rf⟩
          · refine g_iconst (n := 140) X dX12_isAtOwn_139 rfl ?_
            refine g_goto (tgt := 144) X dX12_isAtOwn_140 (by decide) ?_
            exact hq _ _ _ _ dX12_isAtOwn_144 (by omega) ⟨by omega, I, C, gFr.rf⟩
        · refine g_aload_n (n := 62) X 0 dX12_isAtOwn_61 rfl rfl rfl ?_
          refine gg_12_16 (n := 65) (z := 199) X (by decide) (gsz hsz (by decide)) lay_190 kw_6_42 dX12_isAtOwn_62 rfl (rf_190_16 I (gsz hsz (by decide))) (by decide) ?_
          refine g_aload_n (n := 66) X 0 dX12_isAtOwn_65 rfl rfl rfl ?_
          refine gg_12_15 (n := 69) (z := v1) X (by decide) (gsz hsz (by decide)) lay_190 kw_6_41 dX12_isAtOwn_66 rfl hv1 ?_
          refine g_aload_n (n := 70) X 0 dX12_isAtOwn_69 rfl rfl rfl ?_
          refine g_aload_n (n := 71) X 0 dX12_isAtOwn_70 rfl rfl rfl ?_
          refine gg_12_15 (n := 74) (z := v1) X (by decide) (gsz hsz (by decide)) lay_190 kw_6_41 dX12_isAtOwn_71 rfl hv1 ?_
          refine g_iconst (n := 75) X dX12_isAtOwn_74 rfl ?_
          refine g_aload_n (n := 76) X 0 dX12_isAtOwn_75 rfl rfl rfl ?_
          refine gg_12_1 (n := 79) (z := 191) X (by decide) (gsz hsz (by decide)) lay_190 kw_6_27 dX12_isAtOwn_76 rfl (rf_190_1 I (gsz hsz (by decide))) (by decide) ?_
          refine g_iconst (n := 80) X dX12_isAtOwn_79 rfl ?_
          refine g_iald2 (n := 81) (v := v21) X (by decide) (gsz hsz (by decide)) lay_191 (by omega) (by omega) (by decide) dX12_isAtOwn_80 rfl hv21 ?_
          refine g_iconst (n := 82) X dX12_isAtOwn_81 rfl ?_
          refine g_callVi (n := 85) (As := [gJ v1, gJ 1, gJ v21, gJ (-1)]) (rest := [gJ v1, gA n0 199]) (cs1 := 0) (ss1 := 0) X (s_X12_byBench v1 (by omega) 1 (by omega) v21 (by omega) (-1) (by omega) hsz I C W (by have q2 := hv2; omega)) okX12_byBench kw_6_185 ⟨kw_6_187, kw_0_47⟩ ⟨rfl, rfl⟩ ⟨Nat.le_of_ble_eq_true rfl, Nat.le_of_ble_eq_true rfl⟩ rfl (by decide) (gsz hsz (by decide)) lay_190 rfl rfl (Nat.le_of_ble_eq_true rfl) ⟨Nat.le_of_ble_eq_true rfl, Nat.le_of_ble_eq_true rfl⟩ rfl rfl dX12_isAtOwn_82 rfl (fun v25 M26 P27 => ?_)
          obtain ⟨rv25, IM26, CM26, FM26, xM26⟩ := P27
          refine g_iast (n := 86) X (by decide) (gsz hsz (by decide)) lay_199 (by omega) (by omega) (by decide) dX12_isAtOwn_85 rfl ?_
          refine G.nm (fun M28 e29 => ?_)
          have IM28 : gI sz M28 := gI.set IM26 (ra_199 v1).1 (by omega) e29
          have CM28 : gC sz M28 := gC.set CM26 (ra_199 v1).2.1 e29
          refine g_aload_n (n := 87) X 0 dX12_isAtOwn_86 rfl rfl rfl ?_
          refine gg_12_18 (n := 90) (z := 201) X (by decide) (gsz hsz (by decide)) lay_190 kw_6_44 dX12_isAtOwn_87 rfl (rf_190_18 IM28 (gsz hsz (by decide))) (by decide) ?_
          refine g_aload_n (n := 91) X 0 dX12_isAtOwn_90 rfl rfl rfl ?_
          refine gg_12_15 (n := 94) (z := v1) X (by decide) (gsz hsz (by decide)) lay_190 kw_6_41 dX12_isAtOwn_91 rfl ((congrFun (congrFun e29 _) _).trans ((gset_ne (by omega)).trans ((gFr.at FM26 rc_190_15.2.2 rfl).trans hv1))) ?_
          refine g_aload_n (n := 95) X 0 dX12_isAtOwn_94 rfl rfl rfl ?_
          refine gg_12_19 (n := 98) (z := v7) X (by decide) (gsz hsz (by decide)) lay_190 kw_6_45 dX12_isAtOwn_95 rfl ((congrFun (congrFun e29 _) _).trans ((gset_ne (by omega)).trans ((gFr.at FM26 rc_190_19.2.2 rfl).trans hv7))) ?_
          refine g_iast (n := 99) X (by decide) (gsz hsz (by decide)) lay_201 (by omega) (by omega) (by decide) dX12_isAtOwn_98 rfl ?_
          refine G.nm (fun M30 e31 => ?_)
          have IM30 : gI sz M30 := gI.set IM28 (ra_201 v1).1 (by omega) e31
          have CM30 : gC sz M30 := gC.set CM28 (ra_201 v1).2.1 e31
          refine g_aload_n (n := 100) X 0 dX12_isAtOwn_99 rfl rfl rfl ?_
          refine gg_12_17 (n := 103) (z := 200) X (by decide) (gsz hsz (by decide)) lay_190 kw_6_43 dX12_isAtOwn_100 rfl (rf_190_17 IM30 (gsz hsz (by decide))) (by decide) ?_
          refine g_aload_n (n := 104) X 0 dX12_isAtOwn_103 rfl rfl rfl ?_
          refine gg_12_15 (n := 107) (z := v1) X (by decide) (gsz hsz (by decide)) lay_190 kw_6_41 dX12_isAtOwn_104 rfl ((congrFun (congrFun e31 _) _).trans ((gset_ne (by omega)).trans ((congrFun (congrFun e29 _) _).trans ((gset_ne (by omega)).trans ((gFr.at FM26 rc_190_15.2.2 rfl).trans hv1))))) ?_
          refine g_aload_n (n := 108) X 0 dX12_isAtOwn_107 rfl rfl rfl ?_
          refine gg_12_1 (n := 111) (z := 191) X (by decide) (gsz hsz (by decide)) lay_190 kw_6_27 dX12_isAtOwn_108 rfl (rf_190_1 IM30 (gsz hsz (by decide))) (by decide) ?_
          refine g_iconst (n := 112) X dX12_isAtOwn_111 rfl ?_
          refine g_iald2 (n := 113) (v := v21) X (by decide) (gsz hsz (by decide)) lay_191 (by omega) (by omega) (by decide) dX12_isAtOwn_112 rfl ((congrFun (congrFun e31 _) _).trans ((gset_ne (by omega)).trans ((congrFun (congrFun e29 _) _).trans ((gset_ne (by omega)).trans ((gFr.at FM26 (rs_NOW (k := 0) (by omega)).2.2 rfl).trans hv21))))) ?_
          refine g_iast (n := 114) X (by decide) (gsz hsz (by decide)) lay_200 (by omega) (by omega) (by decide) dX12_isAtOwn_113 rfl ?_
          refine G.nm (fun M32 e33 => ?_)
          have IM32 : gI sz M32 := gI.set IM30 (ra_200 v1).1 (by omega) e33
          have CM32 : gC sz M32 := gC.set CM30 (ra_200 v1).2.1 e33
          refine g_aload_n (n := 115) X 0 dX12_isAtOwn_114 rfl rfl rfl ?_
          refine gg_12_16 (n := 118) (z := 199) X (by decide) (gsz hsz (by decide)) lay_190 kw_6_42 dX12_isAtOwn_115 rfl (rf_190_16 IM32 (gsz hsz (by decide))) (by decide) ?_
          refine g_aload_n (n := 119) X 0 dX12_isAtOwn_118 rfl rfl rfl ?_
          refine gg_12_15 (n := 122) (z := v1) X (by decide) (gsz hsz (by decide)) lay_190 kw_6_41 dX12_isAtOwn_119 rfl ((congrFun (congrFun e33 _) _).trans ((gset_ne (by omega)).trans ((congrFun (congrFun e31 _) _).trans ((gset_ne (by omega)).trans ((congrFun (congrFun e29 _) _).trans ((gset_ne (by omega)).trans ((gFr.at FM26 rc_190_15.2.2 rfl).trans hv1))))))) ?_
          refine g_iald2 (n := 123) (v := v25) X (by decide) (gsz hsz (by decide)) lay_199 (by omega) (by omega) (by decide) dX12_isAtOwn_122 rfl ((congrFun (congrFun e33 _) _).trans ((gset_ne (by omega)).trans ((congrFun (congrFun e31 _) _).trans ((gset_ne (by omega)).trans ((congrFun (congrFun e29 _) _).trans (gset_eq _ _ _ _)))))) ?_
          refine g_aload_n (n := 124) X 0 dX12_isAtOwn_123 rfl rfl rfl ?_
          refine gg_12_1 (n := 127) (z := 191) X (by decide) (gsz hsz (by decide)) lay_190 kw_6_27 dX12_isAtOwn_124 rfl (rf_190_1 IM32 (gsz hsz (by decide))) (by decide) ?_
          refine g_sipush (n := 130) X dX12_isAtOwn_127 (by decide +kernel) rfl ?_
          refine g_aload_n (n := 131) X 0 dX12_isAtOwn_130 rfl rfl rfl ?_
          refine gg_12_15 (n := 134) (z := v1) X (by decide) (gsz hsz (by decide)) lay_190 kw_6_41 dX12_isAtOwn_131 rfl ((congrFun (congrFun e33 _) _).trans ((gset_ne (by omega)).trans ((congrFun (congrFun e31 _) _).trans ((gset_ne (by omega)).trans ((congrFun (congrFun e29 _) _).trans ((gset_ne (by omega)).trans ((gFr.at FM26 rc_190_15.2.2 rfl).trans hv1))))))) ?_
          refine g_iadd (n := 135) (z := v1 + 160) X dX12_isAtOwn_134 (by omega) rfl ?_
          refine g_iald2 (n := 136) (v := v4) X (by decide) (gsz hsz (by decide)) lay_191 (by omega) (by omega) (by decide) dX12_isAtOwn_135 rfl ((congrFun (congrFun e33 _) _).trans ((gset_ne (by omega)).trans ((congrFun (congrFun e31 _) _).trans ((gset_ne (by omega)).trans ((congrFun (congrFun e29 _) _).trans ((gset_ne (by omega)).trans ((gFr.at FM26 (rs_AT (k := v1 + 160) (by omega)).2.2 rfl).trans hv4))))))) ?_
          refine g_icmp_ne (n := 139) (tgt := 143) X dX12_isAtOwn_136 (by decide) (by omega) (by omega) rfl (fun c34 => ?_) (fun c34 => ?_)
          · refine g_iconst (n := 144) X dX12_isAtOwn_143 rfl ?_
            exact hq _ _ _ _ dX12_isAtOwn_144 (by omega) ⟨by omega, IM32, CM32, (gFr.s (gFr.s (gFr.s (gFr.c gFr.rf FM26 rfl) e29 (ra_199 v1).2.2 rfl) e31 (ra_201 v1).2.2 rfl) e33 (ra_200 v1).2.2 rfl)⟩
          · refine g_iconst (n := 140) X dX12_isAtOwn_139 rfl ?_
            refine g_goto (tgt := 144) X dX12_isAtOwn_140 (by decide) ?_
            exact hq _ _ _ _ dX12_isAtOwn_144 (by omega) ⟨by omega, IM32, CM32, (gFr.s (gFr.s (gFr.s (gFr.c gFr.rf FM26 rfl) e29 (ra_199 v1).2.2 rfl) e31 (ra_201 v1).2.2 rfl) e33 (ra_200 v1).2.2 rfl)⟩
    · refine g_iconst (n := 26) X dX12_isAtOwn_25 rfl ?_
      exact hq _ _ _ _ dX12_isAtOwn_26 (by omega) ⟨by omega, I, C, gFr.rf⟩
abbrev RF (d : Nat) : Room := { frames := 6 * d + 90, cells := 0, slots := 0, locals := 240 * d + 4000 }
abbrev RE (d : Nat) : Room := { frames := 6 * d + 92, cells := 0, slots := 0, locals := 240 * d + 4060 }
abbrev RO (d : Nat) : Room := { frames := 6 * d + 94, cells := 0, slots := 0, locals := 240 * d + 4120 }
theorem rc_190_14 : gRg 190 14 = (0, 7) ∧ gCr 190 14 = false ∧ gG 190 14 = 70 := by decide +kernel
theorem dX12_factor_0 : decode cX12_factor 0 = .ok (.aload_n 0, 1) := dc_42 (by decide +kernel)
theorem dX12_factor_1 : decode cX12_factor 1 = .ok (.getfield 135, 3) := dc_180 0 135 (by decide +kernel)
theorem dX12_factor_4 : decode cX12_factor 4 = .ok (.ifCond .eq 5, 3) := dc_153 0 5 5 (by decide +kernel)
theorem dX12_factor_9 : decode cX12_factor 9 = .ok (.aload_n 0, 1) := dc_42 (by decide +kernel)
theorem dX12_factor_10 : decode cX12_factor 10 = .ok (.invokevirtual 139, 3) := dc_182 0 139 (by decide +kernel)
theorem dX12_factor_13 : decode cX12_factor 13 = .ok (.istore_n 1, 1) := dc_60 (by decide +kernel)
theorem dX12_factor_14 : decode cX12_factor 14 = .ok (.iload_n 1, 1) := dc_27 (by decide +kernel)
theorem dX12_factor_15 : decode cX12_factor 15 = .ok (.bipush 33, 2) := dc_16 33 33 (by decide +kernel)
theorem dX12_factor_17 : decode cX12_factor 17 = .ok (.if_icmp .eq 9, 3) := dc_159 0 9 9 (by decide +kernel)
theorem dX12_factor_26 : decode cX12_factor 26 = .ok (.aload_n 0, 1) := dc_42 (by decide +kernel)
theorem dX12_factor_27 : decode cX12_factor 27 = .ok (.aload_n 0, 1) := dc_42 (by decide +kernel)
theorem dX12_factor_28 : decode cX12_factor 28 = .ok (.getfield 186, 3) := dc_180 0 186 (by decide +kernel)
theorem kw_6_40 : (Jvm.Cond.fieldLink "ParishUnionModel" (186 : Nat) "ParishUnionModel" "open" "I") ∈ gT := gT_of (tb_6 _ (List.mem_of_getElem? (i := 40) rfl)) rfl
theorem dX12_factor_31 : decode cX12_factor 31 = .ok (.bipush 6, 2) := dc_16 6 6 (by decide +kernel)
theorem dX12_factor_33 : decode cX12_factor 33 = .ok (.if_icmp .ne 7, 3) := dc_160 0 7 7 (by decide +kernel)
theorem dX12_factor_40 : decode cX12_factor 40 = .ok (.iconst 0, 1) := dc_3 (by decide +kernel)
theorem dX12_factor_41 : decode cX12_factor 41 = .ok (.putfield 135, 3) := dc_181 0 135 (by decide +kernel)
theorem dX12_factor_44 : decode cX12_factor 44 = .ok (.aload_n 0, 1) := dc_42 (by decide +kernel)
theorem dX12_factor_45 : decode cX12_factor 45 = .ok (.dup, 1) := dc_89 (by decide +kernel)
theorem dX12_factor_46 : decode cX12_factor 46 = .ok (.getfield 186, 3) := dc_180 0 186 (by decide +kernel)
theorem dX12_factor_49 : decode cX12_factor 49 = .ok (.iconst 1, 1) := dc_4 (by decide +kernel)
theorem dX12_factor_50 : decode cX12_factor 50 = .ok (.iadd, 1) := dc_96 (by decide +kernel)
theorem dX12_factor_51 : decode cX12_factor 51 = .ok (.putfield 186, 3) := dc_181 0 186 (by decide +kernel)
theorem dX12_factor_54 : decode cX12_factor 54 = .ok (.aload_n 0, 1) := dc_42 (by decide +kernel)
theorem dX12_factor_55 : decode cX12_factor 55 = .ok (.dup, 1) := dc_89 (by decide +kernel)
theorem dX12_factor_56 : decode cX12_factor 56 = .ok (.getfield 129, 3) := dc_180 0 129 (by decide +kernel)
theorem dX12_factor_59 : decode cX12_factor 59 = .ok (.aload_n 0, 1) := dc_42 (by decide +kernel)
theorem dX12_factor_60 : decode cX12_factor 60 = .ok (.getfield 135, 3) := dc_180 0 135 (by decide +kernel)
theorem dX12_factor_63 : decode cX12_factor 63 = .ok (.ifCond .eq 7, 3) := dc_153 0 7 7 (by decide +kernel)
theorem dX12_factor_70 : decode cX12_factor 70 = .ok (.iconst 1, 1) := dc_4 (by decide +kernel)
theorem dX12_factor_71 : decode cX12_factor 71 = .ok (.iadd, 1) := dc_96 (by decide +kernel)
theorem dX12_factor_72 : decode cX12_factor 72 = .ok (.putfield 129, 3) := dc_181 0 129 (by decide +kernel)
theorem dX12_factor_75 : decode cX12_factor 75 = .ok (.aload_n 0, 1) := dc_42 (by decide +kernel)
theorem dX12_factor_76 : decode cX12_factor 76 = .ok (.getfield 135, 3) := dc_180 0 135 (by decide +kernel)
theorem dX12_factor_79 : decode cX12_factor 79 = .ok (.ifCond .eq 7, 3) := dc_153 0 7 7 (by decide +kernel)
theorem dX12_factor_86 : decode cX12_factor 86 = .ok (.iload_n 1, 1) := dc_27 (by decide +kernel)
theorem dX12_factor_87 : decode cX12_factor 87 = .ok (.bipush 33, 2) := dc_16 33 33 (by decide +kernel)
theorem dX12_factor_89 : decode cX12_factor 89 = .ok (.if_icmp .ne 18, 3) := dc_160 0 18 18 (by decide +kernel)
theorem dX12_factor_92 : decode cX12_factor 92 = .ok (.aload_n 0, 1) := dc_42 (by decide +kernel)
theorem dX12_factor_93 : decode cX12_factor 93 = .ok (.invokevirtual 189, 3) := dc_182 0 189 (by decide +kernel)
theorem kw_7_54 : (Jvm.Cond.methodLink "ParishUnionModel" (189 : Nat) ({ cls := "ParishUnionModel", name := "factor", desc := "()Z" } : Jvm.MethodName)) ∈ gT := gT_of (tb_7 _ (List.mem_of_getElem? (i := 54) rfl)) rfl
theorem kw_7_57 : (Jvm.Cond.code ({ cls := "ParishUnionModel", name := "factor", desc := "()Z" } : Jvm.MethodName) prog_14_method_44_code (5 : Nat) (Option.some Jvm.ClassFile.FieldType.boolean)) ∈ gT := gT_of (tb_7 _ (List.mem_of_getElem? (i := 57) rfl)) rfl
theorem okX12_factor : gQok yX12_factor cX12_factor 5 (Option.some Jvm.ClassFile.FieldType.boolean) 0 := ⟨kw_7_57, kw_1_13, by decide +kernel, by decide +kernel, by decide +kernel⟩
theorem kw_7_56 : (Jvm.Cond.instanceMethod ({ cls := "ParishUnionModel", name := "factor", desc := "()Z" } : Jvm.MethodName)) ∈ gT := gT_of (tb_7 _ (List.mem_of_getElem? (i := 56) rfl)) rfl
theorem kw_0_65 : (Jvm.Cond.selects "ParishUnionModel" ({ cls := "ParishUnionModel", name := "factor", desc := "()Z" } : Jvm.MethodName) ({ cls := "ParishUnionModel", name := "factor", desc := "()Z" } : Jvm.MethodName)) ∈ gT := gT_of (tb_0 _ (List.mem_of_getElem? (i := 65) rfl)) rfl
theorem dX12_factor_96 : decode cX12_factor 96 = .ok (.ifCond .ne 7, 3) := dc_154 0 7 7 (by decide +kernel)
theorem dX12_factor_103 : decode cX12_factor 103 = .ok (.iconst 0, 1) := dc_3 (by decide +kernel)
theorem dX12_factor_104 : decode cX12_factor 104 = .ok (.goto 7, 3) := dc_167 0 7 7 (by decide +kernel)
theorem dX12_factor_111 : decode cX12_factor 111 = .ok (.istore_n 2, 1) := dc_61 (by decide +kernel)
theorem dX12_factor_112 : decode cX12_factor 112 = .ok (.iload_n 1, 1) := dc_27 (by decide +kernel)
theorem dX12_factor_113 : decode cX12_factor 113 = .ok (.bipush 40, 2) := dc_16 40 40 (by decide +kernel)
theorem dX12_factor_115 : decode cX12_factor 115 = .ok (.if_icmp .ne 9, 3) := dc_160 0 9 9 (by decide +kernel)
theorem dX12_factor_124 : decode cX12_factor 124 = .ok (.aload_n 0, 1) := dc_42 (by decide +kernel)
theorem dX12_factor_125 : decode cX12_factor 125 = .ok (.dup, 1) := dc_89 (by decide +kernel)
theorem dX12_factor_126 : decode cX12_factor 126 = .ok (.getfield 186, 3) := dc_180 0 186 (by decide +kernel)
theorem dX12_factor_129 : decode cX12_factor 129 = .ok (.iconst 1, 1) := dc_4 (by decide +kernel)
theorem dX12_factor_130 : decode cX12_factor 130 = .ok (.isub, 1) := dc_100 (by decide +kernel)
theorem dX12_factor_131 : decode cX12_factor 131 = .ok (.putfield 186, 3) := dc_181 0 186 (by decide +kernel)
theorem dX12_factor_134 : decode cX12_factor 134 = .ok (.iload_n 2, 1) := dc_28 (by decide +kernel)
theorem dX12_factor_135 : decode cX12_factor 135 = .ok (.ireturn, 1) := dc_172 (by decide +kernel)
theorem dX12_factor_99 : decode cX12_factor 99 = .ok (.iconst 1, 1) := dc_4 (by decide +kernel)
theorem dX12_factor_100 : decode cX12_factor 100 = .ok (.goto 11, 3) := dc_167 0 11 11 (by decide +kernel)
theorem dX12_factor_36 : decode cX12_factor 36 = .ok (.iconst 1, 1) := dc_4 (by decide +kernel)
theorem dX12_factor_37 : decode cX12_factor 37 = .ok (.goto 4, 3) := dc_167 0 4 4 (by decide +kernel)
theorem dX12_factor_66 : decode cX12_factor 66 = .ok (.iconst 0, 1) := dc_3 (by decide +kernel)
theorem dX12_factor_67 : decode cX12_factor 67 = .ok (.goto 4, 3) := dc_167 0 4 4 (by decide +kernel)
theorem dX12_factor_82 : decode cX12_factor 82 = .ok (.iconst 0, 1) := dc_3 (by decide +kernel)
theorem dX12_factor_83 : decode cX12_factor 83 = .ok (.goto 28, 3) := dc_167 0 28 28 (by decide +kernel)
theorem dX12_factor_20 : decode cX12_factor 20 = .ok (.iload_n 1, 1) := dc_27 (by decide +kernel)
theorem dX12_factor_21 : decode cX12_factor 21 = .ok (.bipush 40, 2) := dc_16 40 40 (by decide +kernel)
theorem dX12_factor_23 : decode cX12_factor 23 = .ok (.if_icmp .ne 113, 3) := dc_160 0 113 113 (by decide +kernel)
theorem dX12_factor_136 : decode cX12_factor 136 = .ok (.iload_n 1, 1) := dc_27 (by decide +kernel)
theorem dX12_factor_137 : decode cX12_factor 137 = .ok (.bipush 111, 2) := dc_16 111 111 (by decide +kernel)
theorem dX12_factor_139 : decode cX12_factor 139 = .ok (.if_icmp .ne 18, 3) := dc_160 0 18 18 (by decide +kernel)
theorem dX12_factor_157 : decode cX12_factor 157 = .ok (.iload_n 1, 1) := dc_27 (by decide +kernel)
theorem dX12_factor_158 : decode cX12_factor 158 = .ok (.bipush 115, 2) := dc_16 115 115 (by decide +kernel)
theorem dX12_factor_160 : decode cX12_factor 160 = .ok (.if_icmp .eq 9, 3) := dc_159 0 9 9 (by decide +kernel)
theorem dX12_factor_169 : decode cX12_factor 169 = .ok (.aload_n 0, 1) := dc_42 (by decide +kernel)
theorem dX12_factor_170 : decode cX12_factor 170 = .ok (.dup, 1) := dc_89 (by decide +kernel)
theorem dX12_factor_171 : decode cX12_factor 171 = .ok (.getfield 129, 3) := dc_180 0 129 (by decide +kernel)
theorem dX12_factor_174 : decode cX12_factor 174 = .ok (.iconst 1, 1) := dc_4 (by decide +kernel)
theorem dX12_factor_175 : decode cX12_factor 175 = .ok (.iadd, 1) := dc_96 (by decide +kernel)
theorem dX12_factor_176 : decode cX12_factor 176 = .ok (.putfield 129, 3) := dc_181 0 129 (by decide +kernel)
theorem dX12_factor_179 : decode cX12_factor 179 = .ok (.aload_n 0, 1) := dc_42 (by decide +kernel)
theorem dX12_factor_180 : decode cX12_factor 180 = .ok (.bipush 61, 2) := dc_16 61 61 (by decide +kernel)
theorem dX12_factor_182 : decode cX12_factor 182 = .ok (.invokevirtual 195, 3) := dc_182 0 195 (by decide +kernel)
theorem kw_7_42 : (Jvm.Cond.methodLink "ParishUnionModel" (195 : Nat) ({ cls := "ParishUnionModel", name := "must", desc := "(I)V" } : Jvm.MethodName)) ∈ gT := gT_of (tb_7 _ (List.mem_of_getElem? (i := 42) rfl)) rfl
theorem kw_7_45 : (Jvm.Cond.code ({ cls := "ParishUnionModel", name := "must", desc := "(I)V" } : Jvm.MethodName) prog_14_method_36_code (2 : Nat) (Option.none : Option Jvm.ClassFile.FieldType)) ∈ gT := gT_of (tb_7 _ (List.mem_of_getElem? (i := 45) rfl)) rfl
theorem okX12_must : gQok yX12_must cX12_must 2 (Option.none : Option Jvm.ClassFile.FieldType) 1 := ⟨kw_7_45, kw_1_13, by decide +kernel, by decide +kernel, by decide +kernel⟩
theorem kw_7_44 : (Jvm.Cond.instanceMethod ({ cls := "ParishUnionModel", name := "must", desc := "(I)V" } : Jvm.MethodName)) ∈ gT := gT_of (tb_7 _ (List.mem_of_getElem? (i := 44) rfl)) rfl
theorem kw_0_62 : (Jvm.Cond.selects "ParishUnionModel" ({ cls := "ParishUnionModel", name := "must", desc := "(I)V" } : Jvm.MethodName) ({ cls := "ParishUnionModel", name := "must", desc := "(I)V" } : Jvm.MethodName)) ∈ gT := gT_of (tb_0 _ (List.mem_of_getElem? (i := 62) rfl)) rfl
theorem dX12_factor_185 : decode cX12_factor 185 = .ok (.aload_n 0, 1) := dc_42 (by decide +kernel)
theorem dX12_factor_186 : decode cX12_factor 186 = .ok (.iconst 1, 1) := dc_4 (by decide +kernel)
theorem dX12_factor_187 : decode cX12_factor 187 = .ok (.invokevirtual 201, 3) := dc_182 0 201 (by decide +kernel)
theorem kw_7_34 : (Jvm.Cond.methodLink "ParishUnionModel" (201 : Nat) ({ cls := "ParishUnionModel", name := "number", desc := "(I)I" } : Jvm.MethodName)) ∈ gT := gT_of (tb_7 _ (List.mem_of_getElem? (i := 34) rfl)) rfl
theorem kw_7_37 : (Jvm.Cond.code ({ cls := "ParishUnionModel", name := "number", desc := "(I)I" } : Jvm.MethodName) prog_14_method_40_code (4 : Nat) (Option.some Jvm.ClassFile.FieldType.int)) ∈ gT := gT_of (tb_7 _ (List.mem_of_getElem? (i := 37) rfl)) rfl
theorem okX12_number : gQok yX12_number cX12_number 4 (Option.some Jvm.ClassFile.FieldType.int) 1 := ⟨kw_7_37, kw_1_13, by decide +kernel, by decide +kernel, by decide +kernel⟩
theorem kw_7_36 : (Jvm.Cond.instanceMethod ({ cls := "ParishUnionModel", name := "number", desc := "(I)I" } : Jvm.MethodName)) ∈ gT := gT_of (tb_7 _ (List.mem_of_getElem? (i := 36) rfl)) rfl
theorem kw_0_60 : (Jvm.Cond.selects "ParishUnionModel" ({ cls := "ParishUnionModel", name := "number", desc := "(I)I" } : Jvm.MethodName) ({ cls := "ParishUnionModel", name := "number", desc := "(I)I" } : Jvm.MethodName)) ∈ gT := gT_of (tb_0 _ (List.mem_of_getElem? (i := 60) rfl)) rfl
theorem dX12_factor_190 : decode cX12_factor 190 = .ok (.istore_n 2, 1) := dc_61 (by decide +kernel)
theorem dX12_factor_191 : decode cX12_factor 191 = .ok (.aload_n 0, 1) := dc_42 (by decide +kernel)
theorem dX12_factor_192 : decode cX12_factor 192 = .ok (.iload_n 1, 1) := dc_27 (by decide +kernel)
theorem dX12_factor_193 : decode cX12_factor 193 = .ok (.invokevirtual 204, 3) := dc_182 0 204 (by decide +kernel)
theorem kw_7_62 : (Jvm.Cond.methodLink "ParishUnionModel" (204 : Nat) ({ cls := "ParishUnionModel", name := "stands", desc := "(I)I" } : Jvm.MethodName)) ∈ gT := gT_of (tb_7 _ (List.mem_of_getElem? (i := 62) rfl)) rfl
theorem kw_7_65 : (Jvm.Cond.code ({ cls := "ParishUnionModel", name := "stands", desc := "(I)I" } : Jvm.MethodName) prog_14_method_42_code (2 : Nat) (Option.some Jvm.ClassFile.FieldType.int)) ∈ gT := gT_of (tb_7 _ (List.mem_of_getElem? (i := 65) rfl)) rfl
theorem okX12_stands : gQok yX12_stands cX12_stands 2 (Option.some Jvm.ClassFile.FieldType.int) 1 := ⟨kw_7_65, kw_1_13, by decide +kernel, by decide +kernel, by decide +kernel⟩
theorem kw_7_64 : (Jvm.Cond.instanceMethod ({ cls := "ParishUnionModel", name := "stands", desc := "(I)I" } : Jvm.MethodName)) ∈ gT := gT_of (tb_7 _ (List.mem_of_getElem? (i := 64) rfl)) rfl
theorem kw_0_67 : (Jvm.Cond.selects "ParishUnionModel" ({ cls := "ParishUnionModel", name := "stands", desc := "(I)I" } : Jvm.MethodName) ({ cls := "ParishUnionModel", name := "stands", desc := "(I)I" } : Jvm.MethodName)) ∈ gT := gT_of (tb_0 _ (List.mem_of_getElem? (i := 67) rfl)) rfl
theorem dX12_factor_196 : decode cX12_factor 196 = .ok (.iload_n 2, 1) := dc_28 (by decide +kernel)
theorem dX12_factor_197 : decode cX12_factor 197 = .ok (.if_icmp .ne 7, 3) := dc_160 0 7 7 (by decide +kernel)
theorem dX12_factor_204 : decode cX12_factor 204 = .ok (.iconst 0, 1) := dc_3 (by decide +kernel)
theorem dX12_factor_205 : decode cX12_factor 205 = .ok (.ireturn, 1) := dc_172 (by decide +kernel)
theorem dX12_factor_200 : decode cX12_factor 200 = .ok (.iconst 1, 1) := dc_4 (by decide +kernel)
theorem dX12_factor_201 : decode cX12_factor 201 = .ok (.goto 4, 3) := dc_167 0 4 4 (by decide +kernel)
theorem dX12_factor_163 : decode cX12_factor 163 = .ok (.iload_n 1, 1) := dc_27 (by decide +kernel)
theorem dX12_factor_164 : decode cX12_factor 164 = .ok (.bipush 112, 2) := dc_16 112 112 (by decide +kernel)
theorem dX12_factor_166 : decode cX12_factor 166 = .ok (.if_icmp .ne 40, 3) := dc_160 0 40 40 (by decide +kernel)
theorem dX12_factor_206 : decode cX12_factor 206 = .ok (.aload_n 0, 1) := dc_42 (by decide +kernel)
theorem dX12_factor_207 : decode cX12_factor 207 = .ok (.iload_n 1, 1) := dc_27 (by decide +kernel)
theorem dX12_factor_208 : decode cX12_factor 208 = .ok (.bipush 97, 2) := dc_16 97 97 (by decide +kernel)
theorem dX12_factor_210 : decode cX12_factor 210 = .ok (.if_icmp .eq 25, 3) := dc_159 0 25 25 (by decide +kernel)
theorem dX12_factor_235 : decode cX12_factor 235 = .ok (.iconst 0, 1) := dc_3 (by decide +kernel)
theorem dX12_factor_236 : decode cX12_factor 236 = .ok (.putfield 135, 3) := dc_181 0 135 (by decide +kernel)
theorem dX12_factor_239 : decode cX12_factor 239 = .ok (.aload_n 0, 1) := dc_42 (by decide +kernel)
theorem dX12_factor_240 : decode cX12_factor 240 = .ok (.dup, 1) := dc_89 (by decide +kernel)
theorem dX12_factor_241 : decode cX12_factor 241 = .ok (.getfield 129, 3) := dc_180 0 129 (by decide +kernel)
theorem dX12_factor_244 : decode cX12_factor 244 = .ok (.aload_n 0, 1) := dc_42 (by decide +kernel)
theorem dX12_factor_245 : decode cX12_factor 245 = .ok (.getfield 135, 3) := dc_180 0 135 (by decide +kernel)
theorem dX12_factor_248 : decode cX12_factor 248 = .ok (.ifCond .eq 7, 3) := dc_153 0 7 7 (by decide +kernel)
theorem dX12_factor_255 : decode cX12_factor 255 = .ok (.iconst 1, 1) := dc_4 (by decide +kernel)
theorem dX12_factor_256 : decode cX12_factor 256 = .ok (.iadd, 1) := dc_96 (by decide +kernel)
theorem dX12_factor_257 : decode cX12_factor 257 = .ok (.putfield 129, 3) := dc_181 0 129 (by decide +kernel)
theorem dX12_factor_260 : decode cX12_factor 260 = .ok (.aload_n 0, 1) := dc_42 (by decide +kernel)
theorem dX12_factor_261 : decode cX12_factor 261 = .ok (.invokevirtual 139, 3) := dc_182 0 139 (by decide +kernel)
theorem dX12_factor_264 : decode cX12_factor 264 = .ok (.istore_n 2, 1) := dc_61 (by decide +kernel)
theorem dX12_factor_265 : decode cX12_factor 265 = .ok (.aload_n 0, 1) := dc_42 (by decide +kernel)
theorem dX12_factor_266 : decode cX12_factor 266 = .ok (.aload_n 0, 1) := dc_42 (by decide +kernel)
theorem dX12_factor_267 : decode cX12_factor 267 = .ok (.getfield 135, 3) := dc_180 0 135 (by decide +kernel)
theorem dX12_factor_270 : decode cX12_factor 270 = .ok (.ifCond .ne 15, 3) := dc_154 0 15 15 (by decide +kernel)
theorem dX12_factor_273 : decode cX12_factor 273 = .ok (.iload_n 2, 1) := dc_28 (by decide +kernel)
theorem dX12_factor_274 : decode cX12_factor 274 = .ok (.bipush 60, 2) := dc_16 60 60 (by decide +kernel)
theorem dX12_factor_276 : decode cX12_factor 276 = .ok (.if_icmp .eq 13, 3) := dc_159 0 13 13 (by decide +kernel)
theorem dX12_factor_289 : decode cX12_factor 289 = .ok (.iconst 0, 1) := dc_3 (by decide +kernel)
theorem dX12_factor_290 : decode cX12_factor 290 = .ok (.putfield 135, 3) := dc_181 0 135 (by decide +kernel)
theorem dX12_factor_293 : decode cX12_factor 293 = .ok (.aload_n 0, 1) := dc_42 (by decide +kernel)
theorem dX12_factor_294 : decode cX12_factor 294 = .ok (.dup, 1) := dc_89 (by decide +kernel)
theorem dX12_factor_295 : decode cX12_factor 295 = .ok (.getfield 129, 3) := dc_180 0 129 (by decide +kernel)
theorem dX12_factor_298 : decode cX12_factor 298 = .ok (.aload_n 0, 1) := dc_42 (by decide +kernel)
theorem dX12_factor_299 : decode cX12_factor 299 = .ok (.getfield 135, 3) := dc_180 0 135 (by decide +kernel)
theorem dX12_factor_302 : decode cX12_factor 302 = .ok (.ifCond .eq 7, 3) := dc_153 0 7 7 (by decide +kernel)
theorem dX12_factor_309 : decode cX12_factor 309 = .ok (.iconst 1, 1) := dc_4 (by decide +kernel)
theorem dX12_factor_310 : decode cX12_factor 310 = .ok (.iadd, 1) := dc_96 (by decide +kernel)
theorem dX12_factor_311 : decode cX12_factor 311 = .ok (.putfield 129, 3) := dc_181 0 129 (by decide +kernel)
theorem dX12_factor_314 : decode cX12_factor 314 = .ok (.aload_n 0, 1) := dc_42 (by decide +kernel)
theorem dX12_factor_315 : decode cX12_factor 315 = .ok (.iconst 2, 1) := dc_5 (by decide +kernel)
theorem dX12_factor_316 : decode cX12_factor 316 = .ok (.invokevirtual 201, 3) := dc_182 0 201 (by decide +kernel)
theorem dX12_factor_319 : decode cX12_factor 319 = .ok (.istore_n 3, 1) := dc_62 (by decide +kernel)
theorem dX12_factor_320 : decode cX12_factor 320 = .ok (.aload_n 0, 1) := dc_42 (by decide +kernel)
theorem dX12_factor_321 : decode cX12_factor 321 = .ok (.getfield 135, 3) := dc_180 0 135 (by decide +kernel)
theorem dX12_factor_324 : decode cX12_factor 324 = .ok (.ifCond .eq 7, 3) := dc_153 0 7 7 (by decide +kernel)
theorem dX12_factor_331 : decode cX12_factor 331 = .ok (.aload_n 0, 1) := dc_42 (by decide +kernel)
theorem dX12_factor_332 : decode cX12_factor 332 = .ok (.iload_n 1, 1) := dc_27 (by decide +kernel)
theorem dX12_factor_333 : decode cX12_factor 333 = .ok (.invokevirtual 204, 3) := dc_182 0 204 (by decide +kernel)
theorem dX12_factor_336 : decode cX12_factor 336 = .ok (.istore 4, 2) := dc_54 4 (by decide +kernel)
theorem dX12_factor_338 : decode cX12_factor 338 = .ok (.iload_n 2, 1) := dc_28 (by decide +kernel)
theorem dX12_factor_339 : decode cX12_factor 339 = .ok (.bipush 60, 2) := dc_16 60 60 (by decide +kernel)
theorem dX12_factor_341 : decode cX12_factor 341 = .ok (.if_icmp .ne 17, 3) := dc_160 0 17 17 (by decide +kernel)
theorem dX12_factor_344 : decode cX12_factor 344 = .ok (.iload 4, 2) := dc_21 4 (by decide +kernel)
theorem dX12_factor_346 : decode cX12_factor 346 = .ok (.iload_n 3, 1) := dc_29 (by decide +kernel)
theorem dX12_factor_347 : decode cX12_factor 347 = .ok (.if_icmp .ge 7, 3) := dc_162 0 7 7 (by decide +kernel)
theorem dX12_factor_354 : decode cX12_factor 354 = .ok (.iconst 0, 1) := dc_3 (by decide +kernel)
theorem dX12_factor_355 : decode cX12_factor 355 = .ok (.goto 14, 3) := dc_167 0 14 14 (by decide +kernel)
theorem dX12_factor_369 : decode cX12_factor 369 = .ok (.ireturn, 1) := dc_172 (by decide +kernel)
theorem dX12_factor_350 : decode cX12_factor 350 = .ok (.iconst 1, 1) := dc_4 (by decide +kernel)
theorem dX12_factor_351 : decode cX12_factor 351 = .ok (.goto 18, 3) := dc_167 0 18 18 (by decide +kernel)
theorem dX12_factor_327 : decode cX12_factor 327 = .ok (.iconst 0, 1) := dc_3 (by decide +kernel)
theorem dX12_factor_328 : decode cX12_factor 328 = .ok (.goto 8, 3) := dc_167 0 8 8 (by decide +kernel)
theorem dX12_factor_279 : decode cX12_factor 279 = .ok (.iload_n 2, 1) := dc_28 (by decide +kernel)
theorem dX12_factor_280 : decode cX12_factor 280 = .ok (.bipush 62, 2) := dc_16 62 62 (by decide +kernel)
theorem dX12_factor_282 : decode cX12_factor 282 = .ok (.if_icmp .eq 7, 3) := dc_159 0 7 7 (by decide +kernel)
theorem dX12_factor_358 : decode cX12_factor 358 = .ok (.iload 4, 2) := dc_21 4 (by decide +kernel)
theorem dX12_factor_360 : decode cX12_factor 360 = .ok (.iload_n 3, 1) := dc_29 (by decide +kernel)
theorem dX12_factor_361 : decode cX12_factor 361 = .ok (.if_icmp .le 7, 3) := dc_164 0 7 7 (by decide +kernel)
theorem dX12_factor_368 : decode cX12_factor 368 = .ok (.iconst 0, 1) := dc_3 (by decide +kernel)
theorem dX12_factor_364 : decode cX12_factor 364 = .ok (.iconst 1, 1) := dc_4 (by decide +kernel)
theorem dX12_factor_365 : decode cX12_factor 365 = .ok (.goto 4, 3) := dc_167 0 4 4 (by decide +kernel)
theorem dX12_factor_285 : decode cX12_factor 285 = .ok (.iconst 1, 1) := dc_4 (by decide +kernel)
theorem dX12_factor_286 : decode cX12_factor 286 = .ok (.goto 4, 3) := dc_167 0 4 4 (by decide +kernel)
theorem dX12_factor_305 : decode cX12_factor 305 = .ok (.iconst 0, 1) := dc_3 (by decide +kernel)
theorem dX12_factor_306 : decode cX12_factor 306 = .ok (.goto 4, 3) := dc_167 0 4 4 (by decide +kernel)
theorem dX12_factor_213 : decode cX12_factor 213 = .ok (.iload_n 1, 1) := dc_27 (by decide +kernel)
theorem dX12_factor_214 : decode cX12_factor 214 = .ok (.bipush 103, 2) := dc_16 103 103 (by decide +kernel)
theorem dX12_factor_216 : decode cX12_factor 216 = .ok (.if_icmp .eq 19, 3) := dc_159 0 19 19 (by decide +kernel)
theorem dX12_factor_219 : decode cX12_factor 219 = .ok (.iload_n 1, 1) := dc_27 (by decide +kernel)
theorem dX12_factor_220 : decode cX12_factor 220 = .ok (.bipush 104, 2) := dc_16 104 104 (by decide +kernel)
theorem dX12_factor_222 : decode cX12_factor 222 = .ok (.if_icmp .eq 13, 3) := dc_159 0 13 13 (by decide +kernel)
theorem dX12_factor_225 : decode cX12_factor 225 = .ok (.iload_n 1, 1) := dc_27 (by decide +kernel)
theorem dX12_factor_226 : decode cX12_factor 226 = .ok (.bipush 102, 2) := dc_16 102 102 (by decide +kernel)
theorem dX12_factor_228 : decode cX12_factor 228 = .ok (.if_icmp .eq 7, 3) := dc_159 0 7 7 (by decide +kernel)
theorem dX12_factor_231 : decode cX12_factor 231 = .ok (.iconst 1, 1) := dc_4 (by decide +kernel)
theorem dX12_factor_232 : decode cX12_factor 232 = .ok (.goto 4, 3) := dc_167 0 4 4 (by decide +kernel)
theorem dX12_factor_251 : decode cX12_factor 251 = .ok (.iconst 0, 1) := dc_3 (by decide +kernel)
theorem dX12_factor_252 : decode cX12_factor 252 = .ok (.goto 4, 3) := dc_167 0 4 4 (by decide +kernel)
theorem dX12_factor_142 : decode cX12_factor 142 = .ok (.aload_n 0, 1) := dc_42 (by decide +kernel)
theorem dX12_factor_143 : decode cX12_factor 143 = .ok (.dup, 1) := dc_89 (by decide +kernel)
theorem dX12_factor_144 : decode cX12_factor 144 = .ok (.getfield 129, 3) := dc_180 0 129 (by decide +kernel)
theorem dX12_factor_147 : decode cX12_factor 147 = .ok (.iconst 1, 1) := dc_4 (by decide +kernel)
theorem dX12_factor_148 : decode cX12_factor 148 = .ok (.iadd, 1) := dc_96 (by decide +kernel)
theorem dX12_factor_149 : decode cX12_factor 149 = .ok (.putfield 129, 3) := dc_181 0 129 (by decide +kernel)
theorem dX12_factor_152 : decode cX12_factor 152 = .ok (.aload_n 0, 1) := dc_42 (by decide +kernel)
theorem dX12_factor_153 : decode cX12_factor 153 = .ok (.invokevirtual 198, 3) := dc_182 0 198 (by decide +kernel)
theorem kw_7_58 : (Jvm.Cond.methodLink "ParishUnionModel" (198 : Nat) ({ cls := "ParishUnionModel", name := "isAtOwn", desc := "()Z" } : Jvm.MethodName)) ∈ gT := gT_of (tb_7 _ (List.mem_of_getElem? (i := 58) rfl)) rfl
theorem kw_7_61 : (Jvm.Cond.code ({ cls := "ParishUnionModel", name := "isAtOwn", desc := "()Z" } : Jvm.MethodName) prog_14_method_43_code (1 : Nat) (Option.some Jvm.ClassFile.FieldType.boolean)) ∈ gT := gT_of (tb_7 _ (List.mem_of_getElem? (i := 61) rfl)) rfl
theorem okX12_isAtOwn : gQok yX12_isAtOwn cX12_isAtOwn 1 (Option.some Jvm.ClassFile.FieldType.boolean) 0 := ⟨kw_7_61, kw_1_13, by decide +kernel, by decide +kernel, by decide +kernel⟩
theorem kw_7_60 : (Jvm.Cond.instanceMethod ({ cls := "ParishUnionModel", name := "isAtOwn", desc := "()Z" } : Jvm.MethodName)) ∈ gT := gT_of (tb_7 _ (List.mem_of_getElem? (i := 60) rfl)) rfl
theorem kw_0_66 : (Jvm.Cond.selects "ParishUnionModel" ({ cls := "ParishUnionModel", name := "isAtOwn", desc := "()Z" } : Jvm.MethodName) ({ cls := "ParishUnionModel", name := "isAtOwn", desc := "()Z" } : Jvm.MethodName)) ∈ gT := gT_of (tb_0 _ (List.mem_of_getElem? (i := 66) rfl)) rfl
theorem dX12_factor_156 : decode cX12_factor 156 = .ok (.ireturn, 1) := dc_172 (by decide +kernel)
theorem dX12_factor_107 : decode cX12_factor 107 = .ok (.aload_n 0, 1) := dc_42 (by decide +kernel)
theorem dX12_factor_108 : decode cX12_factor 108 = .ok (.invokevirtual 192, 3) := dc_182 0 192 (by decide +kernel)
theorem kw_7_46 : (Jvm.Cond.methodLink "ParishUnionModel" (192 : Nat) ({ cls := "ParishUnionModel", name := "some", desc := "()Z" } : Jvm.MethodName)) ∈ gT := gT_of (tb_7 _ (List.mem_of_getElem? (i := 46) rfl)) rfl
theorem kw_7_49 : (Jvm.Cond.code ({ cls := "ParishUnionModel", name := "some", desc := "()Z" } : Jvm.MethodName) prog_14_method_46_code (3 : Nat) (Option.some Jvm.ClassFile.FieldType.boolean)) ∈ gT := gT_of (tb_7 _ (List.mem_of_getElem? (i := 49) rfl)) rfl
theorem okX12_some : gQok yX12_some cX12_some 3 (Option.some Jvm.ClassFile.FieldType.boolean) 0 := ⟨kw_7_49, kw_1_13, by decide +kernel, by decide +kernel, by decide +kernel⟩
theorem kw_7_48 : (Jvm.Cond.instanceMethod ({ cls := "ParishUnionModel", name := "some", desc := "()Z" } : Jvm.MethodName)) ∈ gT := gT_of (tb_7 _ (List.mem_of_getElem? (i := 48) rfl)) rfl
theorem kw_0_63 : (Jvm.Cond.selects "ParishUnionModel" ({ cls := "ParishUnionModel", name := "some", desc := "()Z" } : Jvm.MethodName) ({ cls := "ParishUnionModel", name := "some", desc := "()Z" } : Jvm.MethodName)) ∈ gT := gT_of (tb_0 _ (List.mem_of_getElem? (i := 63) rfl)) rfl
theorem dX12_factor_118 : decode cX12_factor 118 = .ok (.aload_n 0, 1) := dc_42 (by decide +kernel)
theorem dX12_factor_119 : decode cX12_factor 119 = .ok (.bipush 41, 2) := dc_16 41 41 (by decide +kernel)
theorem dX12_factor_121 : decode cX12_factor 121 = .ok (.invokevirtual 195, 3) := dc_182 0 195 (by decide +kernel)
theorem dX12_factor_7 : decode cX12_factor 7 = .ok (.iconst 0, 1) := dc_3 (by decide +kernel)
theorem dX12_factor_8 : decode cX12_factor 8 = .ok (.ireturn, 1) := dc_172 (by decide +kernel)
set_option maxRecDepth 100000 in
set_option maxHeartbeats 4000000 in
theorem s_X12_factorR {l : Launch} {n0 : Nat} {D : va_G} {cA : Nat → ClassId} {M : gM}  {sz : Nat} (hsz : 206 ≤ sz) (I : gI sz M) (C : gC sz M) (W : gW 191 M) (hk : M 190 15 = -1 ∨ M 190 15 < M 191 1) (ho : 0 ≤ M 190 14 ∧ M 190 14 ≤ 6) (d : Nat) (hd : 6 ≤ M 190 14 + (d : Int)) (rec : ∀ d2 : Nat, d = d2 + 1 → (∀ M : gM, gI sz M → gC sz M → gW 191 M → (M 190 15 = -1 ∨ M 190 15 < M 191 1) → 0 ≤ M 190 14 ∧ M 190 14 ≤ 6 → 6 ≤ M 190 14 + (d2 : Int) → Met l yX12_factor (gWsOf yX12_factor cX12_factor 5 (Option.some Jvm.ClassFile.FieldType.boolean)) (RF d2) (gPc n0 D cA [gA n0 190] M sz) (gQi n0 D cA sz (fun z M1 => (0 ≤ z ∧ z ≤ 1) ∧ gI sz M1 ∧ gC sz M1 ∧ gFr 2475881517416798299143274496 M M1 ∧ (M 190 12 ≤ M1 190 12 ∧ M1 190 14 = M 190 14))) 0 0 (fun q => n0 ≤ q)) ∧ (∀ M : gM, gI sz M → gC sz M → gW 191 M → (M 190 15 = -1 ∨ M 190 15 < M 191 1) → 0 ≤ M 190 14 ∧ M 190 14 ≤ 6 → 6 ≤ M 190 14 + (d2 : Int) → Met l yX12_some (gWsOf yX12_some cX12_some 3 (Option.some Jvm.ClassFile.FieldType.boolean)) (RO d2) (gPc n0 D cA [gA n0 190] M sz) (gQi n0 D cA sz (fun z M1 => (0 ≤ z ∧ z ≤ 1) ∧ gI sz M1 ∧ gC sz M1 ∧ gFr 2475881517416798299143274496 M M1 ∧ (M 190 12 ≤ M1 190 12 ∧ M1 190 14 = M 190 14))) 0 0 (fun q => n0 ≤ q))) : Met l yX12_factor (gWsOf yX12_factor cX12_factor 5 (Option.some Jvm.ClassFile.FieldType.boolean)) (RF d) (gPc n0 D cA [gA n0 190] M sz) (gQi n0 D cA sz (fun z M1 => (0 ≤ z ∧ z ≤ 1) ∧ gI sz M1 ∧ gC sz M1 ∧ gFr 2475881517416798299143274496 M M1 ∧ (M 190 12 ≤ M1 190 12 ∧ M1 190 14 = M 190 14))) 0 0 (fun q => n0 ≤ q) := by
  refine gMetZ [gA n0 190] (by decide) (Nat.le_of_ble_eq_true rfl) ⟨rfl, rfl⟩ ?_
  intro p e s m args below meth cd Q X hq
  have X : gCx p s m args meth cd n0 D cA "ParishUnionModel" cX12_factor 5 := X
  show G p l e (RF d) s m args below meth cd n0 D cA 5 Q 0 0 M sz 0 [(0, gA n0 190)] []
  obtain ⟨v1, hv1, rv1⟩ := gRd I (by decide) (gsz hsz (by decide)) rc_190_12.1
  obtain ⟨v2, hv2, rv2⟩ := gRd I (by decide) (gsz hsz (by decide)) rc_190_14.1
  obtain ⟨v3, hv3, rv3⟩ := gRd I (by decide) (gsz hsz (by decide)) rc_190_15.1
  obtain ⟨v4, hv4, rv4⟩ := gRd I (by decide) (gsz hsz (by decide)) (rs_PERS (k := 1) (by omega)).1
  refine g_aload_n (n := 1) X 0 dX12_factor_0 rfl rfl rfl ?_
  obtain ⟨v5, hv5, rv5⟩ := gRd I (by decide) (gsz hsz (by decide)) rc_190_13.1
  refine gg_12_13 (n := 4) (z := v5) X (by decide) (gsz hsz (by decide)) lay_190 kw_6_39 dX12_factor_1 rfl hv5 ?_
  refine g_if_eq (n := 7) (tgt := 9) X dX12_factor_4 (by decide) (by omega) rfl (fun c6 => ?_) (fun c6 => ?_)
  · refine g_aload_n (n := 10) X 0 dX12_factor_9 rfl rfl rfl ?_
    refine g_callVi (n := 13) (As := []) (rest := []) (cs1 := 0) (ss1 := 0) X (s_X12_here  hsz I C ) okX12_here kw_7_26 ⟨kw_7_28, kw_0_58⟩ ⟨rfl, rfl⟩ (by first | exact ⟨Nat.le_of_ble_eq_true rfl, Nat.le_of_ble_eq_true rfl⟩ | (refine ⟨?_, ?_⟩ <;> (simp only [RF, RE, RO, R_X12_here, R_X12_must, R_X12_number, R_X12_letter, R_X12_stands, R_X12_isAtOwn]; omega))) rfl (by decide) (gsz hsz (by decide)) lay_190 rfl rfl (Nat.le_of_ble_eq_true rfl) ⟨Nat.le_of_ble_eq_true rfl, Nat.le_of_ble_eq_true rfl⟩ rfl rfl dX12_factor_10 rfl (fun v7 M8 P9 => ?_)
    obtain ⟨rfl, rv7, xv7⟩ := P9
    refine g_istore_n (n := 14) (L' := [(1, gJ v7), (0, gA n0 190)]) X dX12_factor_13 rfl (by decide) rfl rfl ?_
    refine g_iload_n (n := 15) X 0 dX12_factor_14 rfl rfl rfl ?_
    refine g_bipush (n := 17) X dX12_factor_15 (by decide +kernel) rfl ?_
    refine g_icmp_eq (n := 20) (tgt := 26) X dX12_factor_17 (by decide) (by omega) (by omega) rfl (fun c10 => ?_) (fun c10 => ?_)
    · refine g_aload_n (n := 27) X 1 dX12_factor_26 rfl rfl rfl ?_
      refine g_aload_n (n := 28) X 1 dX12_factor_27 rfl rfl rfl ?_
      refine gg_12_14 (n := 31) (z := v2) X (by decide) (gsz hsz (by decide)) lay_190 kw_6_40 dX12_factor_28 rfl hv2 ?_
      refine g_bipush (n := 33) X dX12_factor_31 (by decide +kernel) rfl ?_
      refine g_icmp_ne (n := 36) (tgt := 40) X dX12_factor_33 (by decide) (by omega) (by omega) rfl (fun c11 => ?_) (fun c11 => ?_)
      · refine g_iconst (n := 41) X dX12_factor_40 rfl ?_
        refine gp_12_13 (n := 44) X (by decide) (gsz hsz (by decide)) lay_190 kw_6_39 (by omega) dX12_factor_41 rfl ?_
        refine G.nm (fun M12 e13 => ?_)
        have IM12 : gI sz M12 := gI.set I rc_190_13.1 (by omega) e13
        have CM12 : gC sz M12 := gC.set C rc_190_13.2.1 e13
        refine g_aload_n (n := 45) X 1 dX12_factor_44 rfl rfl rfl ?_
        refine g_dup (n := 46) X dX12_factor_45 rfl rfl ?_
        refine gg_12_14 (n := 49) (z := v2) X (by decide) (gsz hsz (by decide)) lay_190 kw_6_40 dX12_factor_46 rfl ((congrFun (congrFun e13 _) _).trans ((gset_ne (by omega)).trans hv2)) ?_
        refine g_iconst (n := 50) X dX12_factor_49 rfl ?_
        refine g_iadd (n := 51) (z := v2 + 1) X dX12_factor_50 (by omega) rfl ?_
        refine gp_12_14 (n := 54) X (by decide) (gsz hsz (by decide)) lay_190 kw_6_40 dX12_factor_51 rfl ?_
        refine G.nm (fun M14 e15 => ?_)
        have IM14 : gI sz M14 := gI.set IM12 rc_190_14.1 (by omega) e15
        have CM14 : gC sz M14 := gC.set CM12 rc_190_14.2.1 e15
        refine g_aload_n (n := 55) X 1 dX12_factor_54 rfl rfl rfl ?_
        refine g_dup (n := 56) X dX12_factor_55 rfl rfl ?_
        refine gg_12_12 (n := 59) (z := v1) X (by decide) (gsz hsz (by decide)) lay_190 kw_6_38 dX12_factor_56 rfl ((congrFun (congrFun e15 _) _).trans ((gset_ne (by omega)).trans ((congrFun (congrFun e13 _) _).trans ((gset_ne (by omega)).trans hv1)))) ?_
        refine g_aload_n (n := 60) X 1 dX12_factor_59 rfl rfl rfl ?_
        refine gg_12_13 (n := 63) (z := 0) X (by decide) (gsz hsz (by decide)) lay_190 kw_6_39 dX12_factor_60 rfl ((congrFun (congrFun e15 _) _).trans ((gset_ne (by omega)).trans ((congrFun (congrFun e13 _) _).trans (gset_eq _ _ _ _)))) ?_
        refine g_if_eq (n := 66) (tgt := 70) X dX12_factor_63 (by decide) (by omega) rfl (fun c16 => ?_) (fun c16 => by exfalso; omega)
        refine g_iconst (n := 71) X dX12_factor_70 rfl ?_
        refine g_iadd (n := 72) (z := v1 + 1) X dX12_factor_71 (by omega) rfl ?_
        refine gp_12_12 (n := 75) X (by decide) (gsz hsz (by decide)) lay_190 kw_6_38 dX12_factor_72 rfl ?_
        refine G.nm (fun M17 e18 => ?_)
        have IM17 : gI sz M17 := gI.set IM14 rc_190_12.1 (by omega) e18
        have CM17 : gC sz M17 := gC.set CM14 rc_190_12.2.1 e18
        refine g_aload_n (n := 76) X 1 dX12_factor_75 rfl rfl rfl ?_
        refine gg_12_13 (n := 79) (z := 0) X (by decide) (gsz hsz (by decide)) lay_190 kw_6_39 dX12_factor_76 rfl ((congrFun (congrFun e18 _) _).trans ((gset_ne (by omega)).trans ((congrFun (congrFun e15 _) _).trans ((gset_ne (by omega)).trans ((congrFun (congrFun e13 _) _).trans (gset_eq _ _ _ _)))))) ?_
        refine g_if_eq (n := 82) (tgt := 86) X dX12_factor_79 (by decide) (by omega) rfl (fun c19 => ?_) (fun c19 => by exfalso; omega)
        refine g_iload_n (n := 87) X 0 dX12_factor_86 rfl rfl rfl ?_
        refine g_bipush (n := 89) X dX12_factor_87 (by decide +kernel) rfl ?_
        refine g_icmp_ne (n := 92) (tgt := 107) X dX12_factor_89 (by decide) (by omega) (by omega) rfl (fun c20 => by exfalso; omega) (fun c20 => ?_)
        refine g_aload_n (n := 93) X 1 dX12_factor_92 rfl rfl rfl ?_
        have tM17_12 : M17 190 12 = v1 + 1 := ((congrFun (congrFun e18 _) _).trans (gset_eq _ _ _ _))
        have tM17_14 : M17 190 14 = v2 + 1 := ((congrFun (congrFun e18 _) _).trans ((gset_ne (by omega)).trans ((congrFun (congrFun e15 _) _).trans (gset_eq _ _ _ _))))
        obtain ⟨d2, rfl⟩ : ∃ d2 : Nat, d = d2 + 1 := ⟨d - 1, by omega⟩
        refine g_callVi (n := 96) (As := []) (rest := []) (cs1 := 0) (ss1 := 0) X ((rec d2 rfl).1 M17 IM17 CM17 (gW.fr (S := 1328165573307087716352) W ⟨sz, hsz, I⟩ (gFr.s (gFr.s (gFr.s gFr.rf e13 rc_190_13.2.2 rfl) e15 rc_190_14.2.2 rfl) e18 rc_190_12.2.2 rfl) rfl) (by have q1 := ((congrFun (congrFun e18 _) _).trans ((gset_ne (by omega)).trans ((congrFun (congrFun e15 _) _).trans ((gset_ne (by omega)).trans ((congrFun (congrFun e13 _) _).trans ((gset_ne (by omega)).trans hv3)))))); have q2 := ((congrFun (congrFun e18 _) _).trans ((gset_ne (by omega)).trans ((congrFun (congrFun e15 _) _).trans ((gset_ne (by omega)).trans ((congrFun (congrFun e13 _) _).trans ((gset_ne (by omega)).trans hv4)))))); omega) (by have q14 := ((congrFun (congrFun e18 _) _).trans ((gset_ne (by omega)).trans ((congrFun (congrFun e15 _) _).trans (gset_eq _ _ _ _)))); omega) (by have q14 := ((congrFun (congrFun e18 _) _).trans ((gset_ne (by omega)).trans ((congrFun (congrFun e15 _) _).trans (gset_eq _ _ _ _)))); omega)) okX12_factor kw_7_54 ⟨kw_7_56, kw_0_65⟩ ⟨rfl, rfl⟩ (by first | exact ⟨Nat.le_of_ble_eq_true rfl, Nat.le_of_ble_eq_true rfl⟩ | (refine ⟨?_, ?_⟩ <;> (simp only [RF, RE, RO, R_X12_here, R_X12_must, R_X12_number, R_X12_letter, R_X12_stands, R_X12_isAtOwn]; omega))) rfl (by decide) (gsz hsz (by decide)) lay_190 rfl rfl (Nat.le_of_ble_eq_true rfl) ⟨Nat.le_of_ble_eq_true rfl, Nat.le_of_ble_eq_true rfl⟩ rfl rfl dX12_factor_93 rfl (fun v21 M22 P23 => ?_)
        obtain ⟨rv21, IM22, CM22, FM22, xM22⟩ := P23
        obtain ⟨v24, hv24, rv24⟩ := gRd IM22 (by decide) (gsz hsz (by decide)) rc_190_12.1
        refine g_if_ne (n := 99) (tgt := 103) X dX12_factor_96 (by decide) (by omega) rfl (fun c25 => ?_) (fun c25 => ?_)
        · refine g_iconst (n := 104) X dX12_factor_103 rfl ?_
          refine g_goto (tgt := 111) X dX12_factor_104 (by decide) ?_
          refine g_istore_n (n := 112) (L' := [(2, gJ 0), (1, gJ v7), (0, gA n0 190)]) X dX12_factor_111 rfl (by decide) rfl rfl ?_
          refine g_iload_n (n := 113) X 1 dX12_factor_112 rfl rfl rfl ?_
          refine g_bipush (n := 115) X dX12_factor_113 (by decide +kernel) rfl ?_
          refine g_icmp_ne (n := 118) (tgt := 124) X dX12_factor_115 (by decide) (by omega) (by omega) rfl (fun c26 => ?_) (fun c26 => by exfalso; omega)
          refine g_aload_n (n := 125) X 2 dX12_factor_124 rfl rfl rfl ?_
          refine g_dup (n := 126) X dX12_factor_125 rfl rfl ?_
          refine gg_12_14 (n := 129) (z := v2 + 1) X (by decide) (gsz hsz (by decide)) lay_190 kw_6_40 dX12_factor_126 rfl (xM22.2.trans ((congrFun (congrFun e18 _) _).trans ((gset_ne (by omega)).trans ((congrFun (congrFun e15 _) _).trans (gset_eq _ _ _ _))))) ?_
          refine g_iconst (n := 130) X dX12_factor_129 rfl ?_
          refine g_isub (n := 131) (z := v2) X dX12_factor_130 (by omega) rfl ?_
          refine gp_12_14 (n := 134) X (by decide) (gsz hsz (by decide)) lay_190 kw_6_40 dX12_factor_131 rfl ?_
          refine G.nm (fun M27 e28 => ?_)
          have IM27 : gI sz M27 := gI.set IM22 rc_190_14.1 (by omega) e28
          have CM27 : gC sz M27 := gC.set CM22 rc_190_14.2.1 e28
          refine g_iload_n (n := 135) X 0 dX12_factor_134 rfl rfl rfl ?_
          exact hq _ _ _ _ dX12_factor_135 (by omega) ⟨by omega, IM27, CM27, (gFr.s (gFr.c (gFr.s (gFr.s (gFr.s gFr.rf e13 rc_190_13.2.2 rfl) e15 rc_190_14.2.2 rfl) e18 rc_190_12.2.2 rfl) FM22 rfl) e28 rc_190_14.2.2 rfl), by have q12 := ((congrFun (congrFun e28 _) _).trans ((gset_ne (by omega)).trans hv24)); have q14 := ((congrFun (congrFun e28 _) _).trans (gset_eq _ _ _ _)); omega⟩
        · refine g_iconst (n := 100) X dX12_factor_99 rfl ?_
          refine g_goto (tgt := 111) X dX12_factor_100 (by decide) ?_
          refine g_istore_n (n := 112) (L' := [(2, gJ 1), (1, gJ v7), (0, gA n0 190)]) X dX12_factor_111 rfl (by decide) rfl rfl ?_
          refine g_iload_n (n := 113) X 1 dX12_factor_112 rfl rfl rfl ?_
          refine g_bipush (n := 115) X dX12_factor_113 (by decide +kernel) rfl ?_
          refine g_icmp_ne (n := 118) (tgt := 124) X dX12_factor_115 (by decide) (by omega) (by omega) rfl (fun c29 => ?_) (fun c29 => by exfalso; omega)
          refine g_aload_n (n := 125) X 2 dX12_factor_124 rfl rfl rfl ?_
          refine g_dup (n := 126) X dX12_factor_125 rfl rfl ?_
          refine gg_12_14 (n := 129) (z := v2 + 1) X (by decide) (gsz hsz (by decide)) lay_190 kw_6_40 dX12_factor_126 rfl (xM22.2.trans ((congrFun (congrFun e18 _) _).trans ((gset_ne (by omega)).trans ((congrFun (congrFun e15 _) _).trans (gset_eq _ _ _ _))))) ?_
          refine g_iconst (n := 130) X dX12_factor_129 rfl ?_
          refine g_isub (n := 131) (z := v2) X dX12_factor_130 (by omega) rfl ?_
          refine gp_12_14 (n := 134) X (by decide) (gsz hsz (by decide)) lay_190 kw_6_40 dX12_factor_131 rfl ?_
          refine G.nm (fun M30 e31 => ?_)
          have IM30 : gI sz M30 := gI.set IM22 rc_190_14.1 (by omega) e31
          have CM30 : gC sz M30 := gC.set CM22 rc_190_14.2.1 e31
          refine g_iload_n (n := 135) X 0 dX12_factor_134 rfl rfl rfl ?_
          exact hq _ _ _ _ dX12_factor_135 (by omega) ⟨by omega, IM30, CM30, (gFr.s (gFr.c (gFr.s (gFr.s (gFr.s gFr.rf e13 rc_190_13.2.2 rfl) e15 rc_190_14.2.2 rfl) e18 rc_190_12.2.2 rfl) FM22 rfl) e31 rc_190_14.2.2 rfl), by have q12 := ((congrFun (congrFun e31 _) _).trans ((gset_ne (by omega)).trans hv24)); have q14 := ((congrFun (congrFun e31 _) _).trans (gset_eq _ _ _ _)); omega⟩
      · refine g_iconst (n := 37) X dX12_factor_36 rfl ?_
        refine g_goto (tgt := 41) X dX12_factor_37 (by decide) ?_
        refine gp_12_13 (n := 44) X (by decide) (gsz hsz (by decide)) lay_190 kw_6_39 (by omega) dX12_factor_41 rfl ?_
        refine G.nm (fun M32 e33 => ?_)
        have IM32 : gI sz M32 := gI.set I rc_190_13.1 (by omega) e33
        have CM32 : gC sz M32 := gC.set C rc_190_13.2.1 e33
        refine g_aload_n (n := 45) X 1 dX12_factor_44 rfl rfl rfl ?_
        refine g_dup (n := 46) X dX12_factor_45 rfl rfl ?_
        refine gg_12_14 (n := 49) (z := v2) X (by decide) (gsz hsz (by decide)) lay_190 kw_6_40 dX12_factor_46 rfl ((congrFun (congrFun e33 _) _).trans ((gset_ne (by omega)).trans hv2)) ?_
        refine g_iconst (n := 50) X dX12_factor_49 rfl ?_
        refine g_iadd (n := 51) (z := v2 + 1) X dX12_factor_50 (by omega) rfl ?_
        refine gp_12_14 (n := 54) X (by decide) (gsz hsz (by decide)) lay_190 kw_6_40 dX12_factor_51 rfl ?_
        refine G.nm (fun M34 e35 => ?_)
        have IM34 : gI sz M34 := gI.set IM32 rc_190_14.1 (by omega) e35
        have CM34 : gC sz M34 := gC.set CM32 rc_190_14.2.1 e35
        refine g_aload_n (n := 55) X 1 dX12_factor_54 rfl rfl rfl ?_
        refine g_dup (n := 56) X dX12_factor_55 rfl rfl ?_
        refine gg_12_12 (n := 59) (z := v1) X (by decide) (gsz hsz (by decide)) lay_190 kw_6_38 dX12_factor_56 rfl ((congrFun (congrFun e35 _) _).trans ((gset_ne (by omega)).trans ((congrFun (congrFun e33 _) _).trans ((gset_ne (by omega)).trans hv1)))) ?_
        refine g_aload_n (n := 60) X 1 dX12_factor_59 rfl rfl rfl ?_
        refine gg_12_13 (n := 63) (z := 1) X (by decide) (gsz hsz (by decide)) lay_190 kw_6_39 dX12_factor_60 rfl ((congrFun (congrFun e35 _) _).trans ((gset_ne (by omega)).trans ((congrFun (congrFun e33 _) _).trans (gset_eq _ _ _ _)))) ?_
        refine g_if_eq (n := 66) (tgt := 70) X dX12_factor_63 (by decide) (by omega) rfl (fun c36 => by exfalso; omega) (fun c36 => ?_)
        refine g_iconst (n := 67) X dX12_factor_66 rfl ?_
        refine g_goto (tgt := 71) X dX12_factor_67 (by decide) ?_
        refine g_iadd (n := 72) (z := v1) X dX12_factor_71 (by omega) rfl ?_
        refine gp_12_12 (n := 75) X (by decide) (gsz hsz (by decide)) lay_190 kw_6_38 dX12_factor_72 rfl ?_
        refine G.nm (fun M37 e38 => ?_)
        have IM37 : gI sz M37 := gI.set IM34 rc_190_12.1 (by omega) e38
        have CM37 : gC sz M37 := gC.set CM34 rc_190_12.2.1 e38
        refine g_aload_n (n := 76) X 1 dX12_factor_75 rfl rfl rfl ?_
        refine gg_12_13 (n := 79) (z := 1) X (by decide) (gsz hsz (by decide)) lay_190 kw_6_39 dX12_factor_76 rfl ((congrFun (congrFun e38 _) _).trans ((gset_ne (by omega)).trans ((congrFun (congrFun e35 _) _).trans ((gset_ne (by omega)).trans ((congrFun (congrFun e33 _) _).trans (gset_eq _ _ _ _)))))) ?_
        refine g_if_eq (n := 82) (tgt := 86) X dX12_factor_79 (by decide) (by omega) rfl (fun c39 => by exfalso; omega) (fun c39 => ?_)
        refine g_iconst (n := 83) X dX12_factor_82 rfl ?_
        refine g_goto (tgt := 111) X dX12_factor_83 (by decide) ?_
        refine g_istore_n (n := 112) (L' := [(2, gJ 0), (1, gJ v7), (0, gA n0 190)]) X dX12_factor_111 rfl (by decide) rfl rfl ?_
        refine g_iload_n (n := 113) X 1 dX12_factor_112 rfl rfl rfl ?_
        refine g_bipush (n := 115) X dX12_factor_113 (by decide +kernel) rfl ?_
        refine g_icmp_ne (n := 118) (tgt := 124) X dX12_factor_115 (by decide) (by omega) (by omega) rfl (fun c40 => ?_) (fun c40 => by exfalso; omega)
        refine g_aload_n (n := 125) X 2 dX12_factor_124 rfl rfl rfl ?_
        refine g_dup (n := 126) X dX12_factor_125 rfl rfl ?_
        refine gg_12_14 (n := 129) (z := v2 + 1) X (by decide) (gsz hsz (by decide)) lay_190 kw_6_40 dX12_factor_126 rfl ((congrFun (congrFun e38 _) _).trans ((gset_ne (by omega)).trans ((congrFun (congrFun e35 _) _).trans (gset_eq _ _ _ _)))) ?_
        refine g_iconst (n := 130) X dX12_factor_129 rfl ?_
        refine g_isub (n := 131) (z := v2) X dX12_factor_130 (by omega) rfl ?_
        refine gp_12_14 (n := 134) X (by decide) (gsz hsz (by decide)) lay_190 kw_6_40 dX12_factor_131 rfl ?_
        refine G.nm (fun M41 e42 => ?_)
        have IM41 : gI sz M41 := gI.set IM37 rc_190_14.1 (by omega) e42
        have CM41 : gC sz M41 := gC.set CM37 rc_190_14.2.1 e42
        refine g_iload_n (n := 135) X 0 dX12_factor_134 rfl rfl rfl ?_
        exact hq _ _ _ _ dX12_factor_135 (by omega) ⟨by omega, IM41, CM41, (gFr.s (gFr.s (gFr.s (gFr.s gFr.rf e33 rc_190_13.2.2 rfl) e35 rc_190_14.2.2 rfl) e38 rc_190_12.2.2 rfl) e42 rc_190_14.2.2 rfl), by have q12 := ((congrFun (congrFun e42 _) _).trans ((gset_ne (by omega)).trans ((congrFun (congrFun e38 _) _).trans (gset_eq _ _ _ _)))); have q14 := ((congrFun (congrFun e42 _) _).trans (gset_eq _ _ _ _)); omega⟩
    · refine g_iload_n (n := 21) X 0 dX12_factor_20 rfl rfl rfl ?_
      refine g_bipush (n := 23) X dX12_factor_21 (by decide +kernel) rfl ?_
      refine g_icmp_ne (n := 26) (tgt := 136) X dX12_factor_23 (by decide) (by omega) (by omega) rfl (fun c43 => ?_) (fun c43 => ?_)
      · refine g_iload_n (n := 137) X 0 dX12_factor_136 rfl rfl rfl ?_
        refine g_bipush (n := 139) X dX12_factor_137 (by decide +kernel) rfl ?_
        refine g_icmp_ne (n := 142) (tgt := 157) X dX12_factor_139 (by decide) (by omega) (by omega) rfl (fun c44 => ?_) (fun c44 => ?_)
        · refine g_iload_n (n := 158) X 0 dX12_factor_157 rfl rfl rfl ?_
          refine g_bipush (n := 160) X dX12_factor_158 (by decide +kernel) rfl ?_
          refine g_icmp_eq (n := 163) (tgt := 169) X dX12_factor_160 (by decide) (by omega) (by omega) rfl (fun c45 => ?_) (fun c45 => ?_)
          · refine g_aload_n (n := 170) X 1 dX12_factor_169 rfl rfl rfl ?_
            refine g_dup (n := 171) X dX12_factor_170 rfl rfl ?_
            refine gg_12_12 (n := 174) (z := v1) X (by decide) (gsz hsz (by decide)) lay_190 kw_6_38 dX12_factor_171 rfl hv1 ?_
            refine g_iconst (n := 175) X dX12_factor_174 rfl ?_
            refine g_iadd (n := 176) (z := v1 + 1) X dX12_factor_175 (by omega) rfl ?_
            refine gp_12_12 (n := 179) X (by decide) (gsz hsz (by decide)) lay_190 kw_6_38 dX12_factor_176 rfl ?_
            refine G.nm (fun M46 e47 => ?_)
            have IM46 : gI sz M46 := gI.set I rc_190_12.1 (by omega) e47
            have CM46 : gC sz M46 := gC.set C rc_190_12.2.1 e47
            refine g_aload_n (n := 180) X 1 dX12_factor_179 rfl rfl rfl ?_
            refine g_bipush (n := 182) X dX12_factor_180 (by decide +kernel) rfl ?_
            have tM46_12 : M46 190 12 = v1 + 1 := ((congrFun (congrFun e47 _) _).trans (gset_eq _ _ _ _))
            refine g_callVv (n := 185) (As := [gJ 61]) (rest := []) (cs1 := 0) (ss1 := 0) X (s_X12_must 61 (by omega) hsz IM46 CM46 ) okX12_must kw_7_42 ⟨kw_7_44, kw_0_62⟩ ⟨rfl, rfl⟩ (by first | exact ⟨Nat.le_of_ble_eq_true rfl, Nat.le_of_ble_eq_true rfl⟩ | (refine ⟨?_, ?_⟩ <;> (simp only [RF, RE, RO, R_X12_here, R_X12_must, R_X12_number, R_X12_letter, R_X12_stands, R_X12_isAtOwn]; omega))) rfl (by decide) (gsz hsz (by decide)) lay_190 rfl rfl (Nat.le_of_ble_eq_true rfl) ⟨Nat.le_of_ble_eq_true rfl, Nat.le_of_ble_eq_true rfl⟩ rfl rfl dX12_factor_182 rfl (fun M49 P50 => ?_)
            obtain ⟨IM49, CM49, FM49, xM49⟩ := P50
            obtain ⟨v51, hv51, rv51⟩ := gRd IM49 (by decide) (gsz hsz (by decide)) rc_190_12.1
            refine g_aload_n (n := 186) X 1 dX12_factor_185 rfl rfl rfl ?_
            refine g_iconst (n := 187) X dX12_factor_186 rfl ?_
            refine g_callVi (n := 190) (As := [gJ 1]) (rest := []) (cs1 := 0) (ss1 := 0) X (s_X12_number 1 (by omega) hsz IM49 CM49 ) okX12_number kw_7_34 ⟨kw_7_36, kw_0_60⟩ ⟨rfl, rfl⟩ (by first | exact ⟨Nat.le_of_ble_eq_true rfl, Nat.le_of_ble_eq_true rfl⟩ | (refine ⟨?_, ?_⟩ <;> (simp only [RF, RE, RO, R_X12_here, R_X12_must, R_X12_number, R_X12_letter, R_X12_stands, R_X12_isAtOwn]; omega))) rfl (by decide) (gsz hsz (by decide)) lay_190 rfl rfl (Nat.le_of_ble_eq_true rfl) ⟨Nat.le_of_ble_eq_true rfl, Nat.le_of_ble_eq_true rfl⟩ rfl rfl dX12_factor_187 rfl (fun v52 M53 P54 => ?_)
            obtain ⟨rv52, IM53, CM53, FM53, xM53⟩ := P54
            obtain ⟨v55, hv55, rv55⟩ := gRd IM53 (by decide) (gsz hsz (by decide)) rc_190_12.1
            refine g_istore_n (n := 191) (L' := [(2, gJ v52), (1, gJ v7), (0, gA n0 190)]) X dX12_factor_190 rfl (by decide) rfl rfl ?_
            refine g_aload_n (n := 192) X 2 dX12_factor_191 rfl rfl rfl ?_
            refine g_iload_n (n := 193) X 1 dX12_factor_192 rfl rfl rfl ?_
            refine g_callVi (n := 196) (As := [gJ v7]) (rest := []) (cs1 := 0) (ss1 := 0) X (s_X12_stands v7 (by omega) hsz IM53 CM53 ) okX12_stands kw_7_62 ⟨kw_7_64, kw_0_67⟩ ⟨rfl, rfl⟩ (by first | exact ⟨Nat.le_of_ble_eq_true rfl, Nat.le_of_ble_eq_true rfl⟩ | (refine ⟨?_, ?_⟩ <;> (simp only [RF, RE, RO, R_X12_here, R_X12_must, R_X12_number, R_X12_letter, R_X12_stands, R_X12_isAtOwn]; omega))) rfl (by decide) (gsz hsz (by decide)) lay_190 rfl rfl (Nat.le_of_ble_eq_true rfl) ⟨Nat.le_of_ble_eq_true rfl, Nat.le_of_ble_eq_true rfl⟩ rfl rfl dX12_factor_193 rfl (fun v56 M57 P58 => ?_)
            obtain ⟨rfl, rv56⟩ := P58
            refine g_iload_n (n := 197) X 0 dX12_factor_196 rfl rfl rfl ?_
            refine g_icmp_ne (n := 200) (tgt := 204) X dX12_factor_197 (by decide) (by omega) (by omega) rfl (fun c59 => ?_) (fun c59 => ?_)
            · refine g_iconst (n := 205) X dX12_factor_204 rfl ?_
              exact hq _ _ _ _ dX12_factor_205 (by omega) ⟨by omega, IM53, CM53, (gFr.c (gFr.c (gFr.s gFr.rf e47 rc_190_12.2.2 rfl) FM49 rfl) FM53 rfl), by have q12 := hv55; have q14 := ((gFr.at FM53 rc_190_14.2.2 rfl).trans ((gFr.at FM49 rc_190_14.2.2 rfl).trans ((congrFun (congrFun e47 _) _).trans ((gset_ne (by omega)).trans hv2)))); omega⟩
            · refine g_iconst (n := 201) X dX12_factor_200 rfl ?_
              refine g_goto (tgt := 205) X dX12_factor_201 (by decide) ?_
              exact hq _ _ _ _ dX12_factor_205 (by omega) ⟨by omega, IM53, CM53, (gFr.c (gFr.c (gFr.s gFr.rf e47 rc_190_12.2.2 rfl) FM49 rfl) FM53 rfl), by have q12 := hv55; have q14 := ((gFr.at FM53 rc_190_14.2.2 rfl).trans ((gFr.at FM49 rc_190_14.2.2 rfl).trans ((congrFun (congrFun e47 _) _).trans ((gset_ne (by omega)).trans hv2)))); omega⟩
          · refine g_iload_n (n := 164) X 0 dX12_factor_163 rfl rfl rfl ?_
            refine g_bipush (n := 166) X dX12_factor_164 (by decide +kernel) rfl ?_
            refine g_icmp_ne (n := 169) (tgt := 206) X dX12_factor_166 (by decide) (by omega) (by omega) rfl (fun c60 => ?_) (fun c60 => ?_)
            · refine g_aload_n (n := 207) X 1 dX12_factor_206 rfl rfl rfl ?_
              refine g_iload_n (n := 208) X 0 dX12_factor_207 rfl rfl rfl ?_
              refine g_bipush (n := 210) X dX12_factor_208 (by decide +kernel) rfl ?_
              refine g_icmp_eq (n := 213) (tgt := 235) X dX12_factor_210 (by decide) (by omega) (by omega) rfl (fun c61 => ?_) (fun c61 => ?_)
              · refine g_iconst (n := 236) X dX12_factor_235 rfl ?_
                refine gp_12_13 (n := 239) X (by decide) (gsz hsz (by decide)) lay_190 kw_6_39 (by omega) dX12_factor_236 rfl ?_
                refine G.nm (fun M62 e63 => ?_)
                have IM62 : gI sz M62 := gI.set I rc_190_13.1 (by omega) e63
                have CM62 : gC sz M62 := gC.set C rc_190_13.2.1 e63
                refine g_aload_n (n := 240) X 1 dX12_factor_239 rfl rfl rfl ?_
                refine g_dup (n := 241) X dX12_factor_240 rfl rfl ?_
                refine gg_12_12 (n := 244) (z := v1) X (by decide) (gsz hsz (by decide)) lay_190 kw_6_38 dX12_factor_241 rfl ((congrFun (congrFun e63 _) _).trans ((gset_ne (by omega)).trans hv1)) ?_
                refine g_aload_n (n := 245) X 1 dX12_factor_244 rfl rfl rfl ?_
                refine gg_12_13 (n := 248) (z := 0) X (by decide) (gsz hsz (by decide)) lay_190 kw_6_39 dX12_factor_245 rfl ((congrFun (congrFun e63 _) _).trans (gset_eq _ _ _ _)) ?_
                refine g_if_eq (n := 251) (tgt := 255) X dX12_factor_248 (by decide) (by omega) rfl (fun c64 => ?_) (fun c64 => by exfalso; omega)
                refine g_iconst (n := 256) X dX12_factor_255 rfl ?_
                refine g_iadd (n := 257) (z := v1 + 1) X dX12_factor_256 (by omega) rfl ?_
                refine gp_12_12 (n := 260) X (by decide) (gsz hsz (by decide)) lay_190 kw_6_38 dX12_factor_257 rfl ?_
                refine G.nm (fun M65 e66 => ?_)
                have IM65 : gI sz M65 := gI.set IM62 rc_190_12.1 (by omega) e66
                have CM65 : gC sz M65 := gC.set CM62 rc_190_12.2.1 e66
                refine g_aload_n (n := 261) X 1 dX12_factor_260 rfl rfl rfl ?_
                have tM65_12 : M65 190 12 = v1 + 1 := ((congrFun (congrFun e66 _) _).trans (gset_eq _ _ _ _))
                refine g_callVi (n := 264) (As := []) (rest := []) (cs1 := 0) (ss1 := 0) X (s_X12_here  hsz IM65 CM65 ) okX12_here kw_7_26 ⟨kw_7_28, kw_0_58⟩ ⟨rfl, rfl⟩ (by first | exact ⟨Nat.le_of_ble_eq_true rfl, Nat.le_of_ble_eq_true rfl⟩ | (refine ⟨?_, ?_⟩ <;> (simp only [RF, RE, RO, R_X12_here, R_X12_must, R_X12_number, R_X12_letter, R_X12_stands, R_X12_isAtOwn]; omega))) rfl (by decide) (gsz hsz (by decide)) lay_190 rfl rfl (Nat.le_of_ble_eq_true rfl) ⟨Nat.le_of_ble_eq_true rfl, Nat.le_of_ble_eq_true rfl⟩ rfl rfl dX12_factor_261 rfl (fun v67 M68 P69 => ?_)
                obtain ⟨rfl, rv67, xv67⟩ := P69
                refine g_istore_n (n := 265) (L' := [(2, gJ v67), (1, gJ v7), (0, gA n0 190)]) X dX12_factor_264 rfl (by decide) rfl rfl ?_
                refine g_aload_n (n := 266) X 2 dX12_factor_265 rfl rfl rfl ?_
                refine g_aload_n (n := 267) X 2 dX12_factor_266 rfl rfl rfl ?_
                refine gg_12_13 (n := 270) (z := 0) X (by decide) (gsz hsz (by decide)) lay_190 kw_6_39 dX12_factor_267 rfl ((congrFun (congrFun e66 _) _).trans ((gset_ne (by omega)).trans ((congrFun (congrFun e63 _) _).trans (gset_eq _ _ _ _)))) ?_
                refine g_if_ne (n := 273) (tgt := 285) X dX12_factor_270 (by decide) (by omega) rfl (fun c70 => by exfalso; omega) (fun c70 => ?_)
                refine g_iload_n (n := 274) X 0 dX12_factor_273 rfl rfl rfl ?_
                refine g_bipush (n := 276) X dX12_factor_274 (by decide +kernel) rfl ?_
                refine g_icmp_eq (n := 279) (tgt := 289) X dX12_factor_276 (by decide) (by omega) (by omega) rfl (fun c71 => ?_) (fun c71 => ?_)
                · refine g_iconst (n := 290) X dX12_factor_289 rfl ?_
                  refine gp_12_13 (n := 293) X (by decide) (gsz hsz (by decide)) lay_190 kw_6_39 (by omega) dX12_factor_290 rfl ?_
                  refine G.nm (fun M72 e73 => ?_)
                  have IM72 : gI sz M72 := gI.set IM65 rc_190_13.1 (by omega) e73
                  have CM72 : gC sz M72 := gC.set CM65 rc_190_13.2.1 e73
                  refine g_aload_n (n := 294) X 2 dX12_factor_293 rfl rfl rfl ?_
                  refine g_dup (n := 295) X dX12_factor_294 rfl rfl ?_
                  refine gg_12_12 (n := 298) (z := v1 + 1) X (by decide) (gsz hsz (by decide)) lay_190 kw_6_38 dX12_factor_295 rfl ((congrFun (congrFun e73 _) _).trans ((gset_ne (by omega)).trans ((congrFun (congrFun e66 _) _).trans (gset_eq _ _ _ _)))) ?_
                  refine g_aload_n (n := 299) X 2 dX12_factor_298 rfl rfl rfl ?_
                  refine gg_12_13 (n := 302) (z := 0) X (by decide) (gsz hsz (by decide)) lay_190 kw_6_39 dX12_factor_299 rfl ((congrFun (congrFun e73 _) _).trans (gset_eq _ _ _ _)) ?_
                  refine g_if_eq (n := 305) (tgt := 309) X dX12_factor_302 (by decide) (by omega) rfl (fun c74 => ?_) (fun c74 => by exfalso; omega)
                  refine g_iconst (n := 310) X dX12_factor_309 rfl ?_
                  refine g_iadd (n := 311) (z := v1 + 2) X dX12_factor_310 (by omega) rfl ?_
                  refine gp_12_12 (n := 314) X (by decide) (gsz hsz (by decide)) lay_190 kw_6_38 dX12_factor_311 rfl ?_
                  refine G.nm (fun M75 e76 => ?_)
                  have IM75 : gI sz M75 := gI.set IM72 rc_190_12.1 (by omega) e76
                  have CM75 : gC sz M75 := gC.set CM72 rc_190_12.2.1 e76
                  refine g_aload_n (n := 315) X 2 dX12_factor_314 rfl rfl rfl ?_
                  refine g_iconst (n := 316) X dX12_factor_315 rfl ?_
                  have tM75_12 : M75 190 12 = v1 + 2 := ((congrFun (congrFun e76 _) _).trans (gset_eq _ _ _ _))
                  refine g_callVi (n := 319) (As := [gJ 2]) (rest := []) (cs1 := 0) (ss1 := 0) X (s_X12_number 2 (by omega) hsz IM75 CM75 ) okX12_number kw_7_34 ⟨kw_7_36, kw_0_60⟩ ⟨rfl, rfl⟩ (by first | exact ⟨Nat.le_of_ble_eq_true rfl, Nat.le_of_ble_eq_true rfl⟩ | (refine ⟨?_, ?_⟩ <;> (simp only [RF, RE, RO, R_X12_here, R_X12_must, R_X12_number, R_X12_letter, R_X12_stands, R_X12_isAtOwn]; omega))) rfl (by decide) (gsz hsz (by decide)) lay_190 rfl rfl (Nat.le_of_ble_eq_true rfl) ⟨Nat.le_of_ble_eq_true rfl, Nat.le_of_ble_eq_true rfl⟩ rfl rfl dX12_factor_316 rfl (fun v77 M78 P79 => ?_)
                  obtain ⟨rv77, IM78, CM78, FM78, xM78⟩ := P79
                  obtain ⟨v80, hv80, rv80⟩ := gRd IM78 (by decide) (gsz hsz (by decide)) rc_190_12.1
                  refine g_istore_n (n := 320) (L' := [(3, gJ v77), (2, gJ v67), (1, gJ v7), (0, gA n0 190)]) X dX12_factor_319 rfl (by decide) rfl rfl ?_
                  refine g_aload_n (n := 321) X 3 dX12_factor_320 rfl rfl rfl ?_
                  obtain ⟨v81, hv81, rv81⟩ := gRd IM78 (by decide) (gsz hsz (by decide)) rc_190_13.1
                  refine gg_12_13 (n := 324) (z := v81) X (by decide) (gsz hsz (by decide)) lay_190 kw_6_39 dX12_factor_321 rfl hv81 ?_
                  refine g_if_eq (n := 327) (tgt := 331) X dX12_factor_324 (by decide) (by omega) rfl (fun c82 => ?_) (fun c82 => ?_)
                  · refine g_aload_n (n := 332) X 3 dX12_factor_331 rfl rfl rfl ?_
                    refine g_iload_n (n := 333) X 2 dX12_factor_332 rfl rfl rfl ?_
                    refine g_callVi (n := 336) (As := [gJ v7]) (rest := []) (cs1 := 0) (ss1 := 0) X (s_X12_stands v7 (by omega) hsz IM78 CM78 ) okX12_stands kw_7_62 ⟨kw_7_64, kw_0_67⟩ ⟨rfl, rfl⟩ (by first | exact ⟨Nat.le_of_ble_eq_true rfl, Nat.le_of_ble_eq_true rfl⟩ | (refine ⟨?_, ?_⟩ <;> (simp only [RF, RE, RO, R_X12_here, R_X12_must, R_X12_number, R_X12_letter, R_X12_stands, R_X12_isAtOwn]; omega))) rfl (by decide) (gsz hsz (by decide)) lay_190 rfl rfl (Nat.le_of_ble_eq_true rfl) ⟨Nat.le_of_ble_eq_true rfl, Nat.le_of_ble_eq_true rfl⟩ rfl rfl dX12_factor_333 rfl (fun v83 M84 P85 => ?_)
                    obtain ⟨rfl, rv83⟩ := P85
                    refine g_istore (n := 338) (L' := [(4, gJ v83), (3, gJ v77), (2, gJ v67), (1, gJ v7), (0, gA n0 190)]) X dX12_factor_336 (by decide) rfl rfl ?_
                    refine g_iload_n (n := 339) X 2 dX12_factor_338 rfl rfl rfl ?_
                    refine g_bipush (n := 341) X dX12_factor_339 (by decide +kernel) rfl ?_
                    refine g_icmp_ne (n := 344) (tgt := 358) X dX12_factor_341 (by decide) (by omega) (by omega) rfl (fun c86 => by exfalso; omega) (fun c86 => ?_)
                    refine g_iload (n := 346) X 0 dX12_factor_344 rfl rfl ?_
                    refine g_iload_n (n := 347) X 1 dX12_factor_346 rfl rfl rfl ?_
                    refine g_icmp_ge (n := 350) (tgt := 354) X dX12_factor_347 (by decide) (by omega) (by omega) rfl (fun c87 => ?_) (fun c87 => ?_)
                    · refine g_iconst (n := 355) X dX12_factor_354 rfl ?_
                      refine g_goto (tgt := 369) X dX12_factor_355 (by decide) ?_
                      exact hq _ _ _ _ dX12_factor_369 (by omega) ⟨by omega, IM78, CM78, (gFr.c (gFr.s (gFr.s (gFr.s (gFr.s gFr.rf e63 rc_190_13.2.2 rfl) e66 rc_190_12.2.2 rfl) e73 rc_190_13.2.2 rfl) e76 rc_190_12.2.2 rfl) FM78 rfl), by have q12 := hv80; have q14 := ((gFr.at FM78 rc_190_14.2.2 rfl).trans ((congrFun (congrFun e76 _) _).trans ((gset_ne (by omega)).trans ((congrFun (congrFun e73 _) _).trans ((gset_ne (by omega)).trans ((congrFun (congrFun e66 _) _).trans ((gset_ne (by omega)).trans ((congrFun (congrFun e63 _) _).trans ((gset_ne (by omega)).trans hv2))))))))); omega⟩
                    · refine g_iconst (n := 351) X dX12_factor_350 rfl ?_
                      refine g_goto (tgt := 369) X dX12_factor_351 (by decide) ?_
                      exact hq _ _ _ _ dX12_factor_369 (by omega) ⟨by omega, IM78, CM78, (gFr.c (gFr.s (gFr.s (gFr.s (gFr.s gFr.rf e63 rc_190_13.2.2 rfl) e66 rc_190_12.2.2 rfl) e73 rc_190_13.2.2 rfl) e76 rc_190_12.2.2 rfl) FM78 rfl), by have q12 := hv80; have q14 := ((gFr.at FM78 rc_190_14.2.2 rfl).trans ((congrFun (congrFun e76 _) _).trans ((gset_ne (by omega)).trans ((congrFun (congrFun e73 _) _).trans ((gset_ne (by omega)).trans ((congrFun (congrFun e66 _) _).trans ((gset_ne (by omega)).trans ((congrFun (congrFun e63 _) _).trans ((gset_ne (by omega)).trans hv2))))))))); omega⟩
                  · refine g_iconst (n := 328) X dX12_factor_327 rfl ?_
                    refine g_goto (tgt := 336) X dX12_factor_328 (by decide) ?_
                    refine g_istore (n := 338) (L' := [(4, gJ 0), (3, gJ v77), (2, gJ v67), (1, gJ v7), (0, gA n0 190)]) X dX12_factor_336 (by decide) rfl rfl ?_
                    refine g_iload_n (n := 339) X 2 dX12_factor_338 rfl rfl rfl ?_
                    refine g_bipush (n := 341) X dX12_factor_339 (by decide +kernel) rfl ?_
                    refine g_icmp_ne (n := 344) (tgt := 358) X dX12_factor_341 (by decide) (by omega) (by omega) rfl (fun c88 => by exfalso; omega) (fun c88 => ?_)
                    refine g_iload (n := 346) X 0 dX12_factor_344 rfl rfl ?_
                    refine g_iload_n (n := 347) X 1 dX12_factor_346 rfl rfl rfl ?_
                    refine g_icmp_ge (n := 350) (tgt := 354) X dX12_factor_347 (by decide) (by omega) (by omega) rfl (fun c89 => ?_) (fun c89 => ?_)
                    · refine g_iconst (n := 355) X dX12_factor_354 rfl ?_
                      refine g_goto (tgt := 369) X dX12_factor_355 (by decide) ?_
                      exact hq _ _ _ _ dX12_factor_369 (by omega) ⟨by omega, IM78, CM78, (gFr.c (gFr.s (gFr.s (gFr.s (gFr.s gFr.rf e63 rc_190_13.2.2 rfl) e66 rc_190_12.2.2 rfl) e73 rc_190_13.2.2 rfl) e76 rc_190_12.2.2 rfl) FM78 rfl), by have q12 := hv80; have q14 := ((gFr.at FM78 rc_190_14.2.2 rfl).trans ((congrFun (congrFun e76 _) _).trans ((gset_ne (by omega)).trans ((congrFun (congrFun e73 _) _).trans ((gset_ne (by omega)).trans ((congrFun (congrFun e66 _) _).trans ((gset_ne (by omega)).trans ((congrFun (congrFun e63 _) _).trans ((gset_ne (by omega)).trans hv2))))))))); omega⟩
                    · refine g_iconst (n := 351) X dX12_factor_350 rfl ?_
                      refine g_goto (tgt := 369) X dX12_factor_351 (by decide) ?_
                      exact hq _ _ _ _ dX12_factor_369 (by omega) ⟨by omega, IM78, CM78, (gFr.c (gFr.s (gFr.s (gFr.s (gFr.s gFr.rf e63 rc_190_13.2.2 rfl) e66 rc_190_12.2.2 rfl) e73 rc_190_13.2.2 rfl) e76 rc_190_12.2.2 rfl) FM78 rfl), by have q12 := hv80; have q14 := ((gFr.at FM78 rc_190_14.2.2 rfl).trans ((congrFun (congrFun e76 _) _).trans ((gset_ne (by omega)).trans ((congrFun (congrFun e73 _) _).trans ((gset_ne (by omega)).trans ((congrFun (congrFun e66 _) _).trans ((gset_ne (by omega)).trans ((congrFun (congrFun e63 _) _).trans ((gset_ne (by omega)).trans hv2))))))))); omega⟩
                · refine g_iload_n (n := 280) X 0 dX12_factor_279 rfl rfl rfl ?_
                  refine g_bipush (n := 282) X dX12_factor_280 (by decide +kernel) rfl ?_
                  refine g_icmp_eq (n := 285) (tgt := 289) X dX12_factor_282 (by decide) (by omega) (by omega) rfl (fun c90 => ?_) (fun c90 => ?_)
                  · refine g_iconst (n := 290) X dX12_factor_289 rfl ?_
                    refine gp_12_13 (n := 293) X (by decide) (gsz hsz (by decide)) lay_190 kw_6_39 (by omega) dX12_factor_290 rfl ?_
                    refine G.nm (fun M91 e92 => ?_)
                    have IM91 : gI sz M91 := gI.set IM65 rc_190_13.1 (by omega) e92
                    have CM91 : gC sz M91 := gC.set CM65 rc_190_13.2.1 e92
                    refine g_aload_n (n := 294) X 2 dX12_factor_293 rfl rfl rfl ?_
                    refine g_dup (n := 295) X dX12_factor_294 rfl rfl ?_
                    refine gg_12_12 (n := 298) (z := v1 + 1) X (by decide) (gsz hsz (by decide)) lay_190 kw_6_38 dX12_factor_295 rfl ((congrFun (congrFun e92 _) _).trans ((gset_ne (by omega)).trans ((congrFun (congrFun e66 _) _).trans (gset_eq _ _ _ _)))) ?_
                    refine g_aload_n (n := 299) X 2 dX12_factor_298 rfl rfl rfl ?_
                    refine gg_12_13 (n := 302) (z := 0) X (by decide) (gsz hsz (by decide)) lay_190 kw_6_39 dX12_factor_299 rfl ((congrFun (congrFun e92 _) _).trans (gset_eq _ _ _ _)) ?_
                    refine g_if_eq (n := 305) (tgt := 309) X dX12_factor_302 (by decide) (by omega) rfl (fun c93 => ?_) (fun c93 => by exfalso; omega)
                    refine g_iconst (n := 310) X dX12_factor_309 rfl ?_
                    refine g_iadd (n := 311) (z := v1 + 2) X dX12_factor_310 (by omega) rfl ?_
                    refine gp_12_12 (n := 314) X (by decide) (gsz hsz (by decide)) lay_190 kw_6_38 dX12_factor_311 rfl ?_
                    refine G.nm (fun M94 e95 => ?_)
                    have IM94 : gI sz M94 := gI.set IM91 rc_190_12.1 (by omega) e95
                    have CM94 : gC sz M94 := gC.set CM91 rc_190_12.2.1 e95
                    refine g_aload_n (n := 315) X 2 dX12_factor_314 rfl rfl rfl ?_
                    refine g_iconst (n := 316) X dX12_factor_315 rfl ?_
                    have tM94_12 : M94 190 12 = v1 + 2 := ((congrFun (congrFun e95 _) _).trans (gset_eq _ _ _ _))
                    refine g_callVi (n := 319) (As := [gJ 2]) (rest := []) (cs1 := 0) (ss1 := 0) X (s_X12_number 2 (by omega) hsz IM94 CM94 ) okX12_number kw_7_34 ⟨kw_7_36, kw_0_60⟩ ⟨rfl, rfl⟩ (by first | exact ⟨Nat.le_of_ble_eq_true rfl, Nat.le_of_ble_eq_true rfl⟩ | (refine ⟨?_, ?_⟩ <;> (simp only [RF, RE, RO, R_X12_here, R_X12_must, R_X12_number, R_X12_letter, R_X12_stands, R_X12_isAtOwn]; omega))) rfl (by decide) (gsz hsz (by decide)) lay_190 rfl rfl (Nat.le_of_ble_eq_true rfl) ⟨Nat.le_of_ble_eq_true rfl, Nat.le_of_ble_eq_true rfl⟩ rfl rfl dX12_factor_316 rfl (fun v96 M97 P98 => ?_)
                    obtain ⟨rv96, IM97, CM97, FM97, xM97⟩ := P98
                    obtain ⟨v99, hv99, rv99⟩ := gRd IM97 (by decide) (gsz hsz (by decide)) rc_190_12.1
                    refine g_istore_n (n := 320) (L' := [(3, gJ v96), (2, gJ v67), (1, gJ v7), (0, gA n0 190)]) X dX12_factor_319 rfl (by decide) rfl rfl ?_
                    refine g_aload_n (n := 321) X 3 dX12_factor_320 rfl rfl rfl ?_
                    obtain ⟨v100, hv100, rv100⟩ := gRd IM97 (by decide) (gsz hsz (by decide)) rc_190_13.1
                    refine gg_12_13 (n := 324) (z := v100) X (by decide) (gsz hsz (by decide)) lay_190 kw_6_39 dX12_factor_321 rfl hv100 ?_
                    refine g_if_eq (n := 327) (tgt := 331) X dX12_factor_324 (by decide) (by omega) rfl (fun c101 => ?_) (fun c101 => ?_)
                    · refine g_aload_n (n := 332) X 3 dX12_factor_331 rfl rfl rfl ?_
                      refine g_iload_n (n := 333) X 2 dX12_factor_332 rfl rfl rfl ?_
                      refine g_callVi (n := 336) (As := [gJ v7]) (rest := []) (cs1 := 0) (ss1 := 0) X (s_X12_stands v7 (by omega) hsz IM97 CM97 ) okX12_stands kw_7_62 ⟨kw_7_64, kw_0_67⟩ ⟨rfl, rfl⟩ (by first | exact ⟨Nat.le_of_ble_eq_true rfl, Nat.le_of_ble_eq_true rfl⟩ | (refine ⟨?_, ?_⟩ <;> (simp only [RF, RE, RO, R_X12_here, R_X12_must, R_X12_number, R_X12_letter, R_X12_stands, R_X12_isAtOwn]; omega))) rfl (by decide) (gsz hsz (by decide)) lay_190 rfl rfl (Nat.le_of_ble_eq_true rfl) ⟨Nat.le_of_ble_eq_true rfl, Nat.le_of_ble_eq_true rfl⟩ rfl rfl dX12_factor_333 rfl (fun v102 M103 P104 => ?_)
                      obtain ⟨rfl, rv102⟩ := P104
                      refine g_istore (n := 338) (L' := [(4, gJ v102), (3, gJ v96), (2, gJ v67), (1, gJ v7), (0, gA n0 190)]) X dX12_factor_336 (by decide) rfl rfl ?_
                      refine g_iload_n (n := 339) X 2 dX12_factor_338 rfl rfl rfl ?_
                      refine g_bipush (n := 341) X dX12_factor_339 (by decide +kernel) rfl ?_
                      refine g_icmp_ne (n := 344) (tgt := 358) X dX12_factor_341 (by decide) (by omega) (by omega) rfl (fun c105 => ?_) (fun c105 => by exfalso; omega)
                      refine g_iload (n := 360) X 0 dX12_factor_358 rfl rfl ?_
                      refine g_iload_n (n := 361) X 1 dX12_factor_360 rfl rfl rfl ?_
                      refine g_icmp_le (n := 364) (tgt := 368) X dX12_factor_361 (by decide) (by omega) (by omega) rfl (fun c106 => ?_) (fun c106 => ?_)
                      · refine g_iconst (n := 369) X dX12_factor_368 rfl ?_
                        exact hq _ _ _ _ dX12_factor_369 (by omega) ⟨by omega, IM97, CM97, (gFr.c (gFr.s (gFr.s (gFr.s (gFr.s gFr.rf e63 rc_190_13.2.2 rfl) e66 rc_190_12.2.2 rfl) e92 rc_190_13.2.2 rfl) e95 rc_190_12.2.2 rfl) FM97 rfl), by have q12 := hv99; have q14 := ((gFr.at FM97 rc_190_14.2.2 rfl).trans ((congrFun (congrFun e95 _) _).trans ((gset_ne (by omega)).trans ((congrFun (congrFun e92 _) _).trans ((gset_ne (by omega)).trans ((congrFun (congrFun e66 _) _).trans ((gset_ne (by omega)).trans ((congrFun (congrFun e63 _) _).trans ((gset_ne (by omega)).trans hv2))))))))); omega⟩
                      · refine g_iconst (n := 365) X dX12_factor_364 rfl ?_
                        refine g_goto (tgt := 369) X dX12_factor_365 (by decide) ?_
                        exact hq _ _ _ _ dX12_factor_369 (by omega) ⟨by omega, IM97, CM97, (gFr.c (gFr.s (gFr.s (gFr.s (gFr.s gFr.rf e63 rc_190_13.2.2 rfl) e66 rc_190_12.2.2 rfl) e92 rc_190_13.2.2 rfl) e95 rc_190_12.2.2 rfl) FM97 rfl), by have q12 := hv99; have q14 := ((gFr.at FM97 rc_190_14.2.2 rfl).trans ((congrFun (congrFun e95 _) _).trans ((gset_ne (by omega)).trans ((congrFun (congrFun e92 _) _).trans ((gset_ne (by omega)).trans ((congrFun (congrFun e66 _) _).trans ((gset_ne (by omega)).trans ((congrFun (congrFun e63 _) _).trans ((gset_ne (by omega)).trans hv2))))))))); omega⟩
                    · refine g_iconst (n := 328) X dX12_factor_327 rfl ?_
                      refine g_goto (tgt := 336) X dX12_factor_328 (by decide) ?_
                      refine g_istore (n := 338) (L' := [(4, gJ 0), (3, gJ v96), (2, gJ v67), (1, gJ v7), (0, gA n0 190)]) X dX12_factor_336 (by decide) rfl rfl ?_
                      refine g_iload_n (n := 339) X 2 dX12_factor_338 rfl rfl rfl ?_
                      refine g_bipush (n := 341) X dX12_factor_339 (by decide +kernel) rfl ?_
                      refine g_icmp_ne (n := 344) (tgt := 358) X dX12_factor_341 (by decide) (by omega) (by omega) rfl (fun c107 => ?_) (fun c107 => by exfalso; omega)
                      refine g_iload (n := 360) X 0 dX12_factor_358 rfl rfl ?_
                      refine g_iload_n (n := 361) X 1 dX12_factor_360 rfl rfl rfl ?_
                      refine g_icmp_le (n := 364) (tgt := 368) X dX12_factor_361 (by decide) (by omega) (by omega) rfl (fun c108 => ?_) (fun c108 => by exfalso; omega)
                      refine g_iconst (n := 369) X dX12_factor_368 rfl ?_
                      exact hq _ _ _ _ dX12_factor_369 (by omega) ⟨by omega, IM97, CM97, (gFr.c (gFr.s (gFr.s (gFr.s (gFr.s gFr.rf e63 rc_190_13.2.2 rfl) e66 rc_190_12.2.2 rfl) e92 rc_190_13.2.2 rfl) e95 rc_190_12.2.2 rfl) FM97 rfl), by have q12 := hv99; have q14 := ((gFr.at FM97 rc_190_14.2.2 rfl).trans ((congrFun (congrFun e95 _) _).trans ((gset_ne (by omega)).trans ((congrFun (congrFun e92 _) _).trans ((gset_ne (by omega)).trans ((congrFun (congrFun e66 _) _).trans ((gset_ne (by omega)).trans ((congrFun (congrFun e63 _) _).trans ((gset_ne (by omega)).trans hv2))))))))); omega⟩
                  · refine g_iconst (n := 286) X dX12_factor_285 rfl ?_
                    refine g_goto (tgt := 290) X dX12_factor_286 (by decide) ?_
                    refine gp_12_13 (n := 293) X (by decide) (gsz hsz (by decide)) lay_190 kw_6_39 (by omega) dX12_factor_290 rfl ?_
                    refine G.nm (fun M109 e110 => ?_)
                    have IM109 : gI sz M109 := gI.set IM65 rc_190_13.1 (by omega) e110
                    have CM109 : gC sz M109 := gC.set CM65 rc_190_13.2.1 e110
                    refine g_aload_n (n := 294) X 2 dX12_factor_293 rfl rfl rfl ?_
                    refine g_dup (n := 295) X dX12_factor_294 rfl rfl ?_
                    refine gg_12_12 (n := 298) (z := v1 + 1) X (by decide) (gsz hsz (by decide)) lay_190 kw_6_38 dX12_factor_295 rfl ((congrFun (congrFun e110 _) _).trans ((gset_ne (by omega)).trans ((congrFun (congrFun e66 _) _).trans (gset_eq _ _ _ _)))) ?_
                    refine g_aload_n (n := 299) X 2 dX12_factor_298 rfl rfl rfl ?_
                    refine gg_12_13 (n := 302) (z := 1) X (by decide) (gsz hsz (by decide)) lay_190 kw_6_39 dX12_factor_299 rfl ((congrFun (congrFun e110 _) _).trans (gset_eq _ _ _ _)) ?_
                    refine g_if_eq (n := 305) (tgt := 309) X dX12_factor_302 (by decide) (by omega) rfl (fun c111 => by exfalso; omega) (fun c111 => ?_)
                    refine g_iconst (n := 306) X dX12_factor_305 rfl ?_
                    refine g_goto (tgt := 310) X dX12_factor_306 (by decide) ?_
                    refine g_iadd (n := 311) (z := v1 + 1) X dX12_factor_310 (by omega) rfl ?_
                    refine gp_12_12 (n := 314) X (by decide) (gsz hsz (by decide)) lay_190 kw_6_38 dX12_factor_311 rfl ?_
                    refine G.nm (fun M112 e113 => ?_)
                    have IM112 : gI sz M112 := gI.set IM109 rc_190_12.1 (by omega) e113
                    have CM112 : gC sz M112 := gC.set CM109 rc_190_12.2.1 e113
                    refine g_aload_n (n := 315) X 2 dX12_factor_314 rfl rfl rfl ?_
                    refine g_iconst (n := 316) X dX12_factor_315 rfl ?_
                    have tM112_12 : M112 190 12 = v1 + 1 := ((congrFun (congrFun e113 _) _).trans (gset_eq _ _ _ _))
                    refine g_callVi (n := 319) (As := [gJ 2]) (rest := []) (cs1 := 0) (ss1 := 0) X (s_X12_number 2 (by omega) hsz IM112 CM112 ) okX12_number kw_7_34 ⟨kw_7_36, kw_0_60⟩ ⟨rfl, rfl⟩ (by first | exact ⟨Nat.le_of_ble_eq_true rfl, Nat.le_of_ble_eq_true rfl⟩ | (refine ⟨?_, ?_⟩ <;> (simp only [RF, RE, RO, R_X12_here, R_X12_must, R_X12_number, R_X12_letter, R_X12_stands, R_X12_isAtOwn]; omega))) rfl (by decide) (gsz hsz (by decide)) lay_190 rfl rfl (Nat.le_of_ble_eq_true rfl) ⟨Nat.le_of_ble_eq_true rfl, Nat.le_of_ble_eq_true rfl⟩ rfl rfl dX12_factor_316 rfl (fun v114 M115 P116 => ?_)
                    obtain ⟨rv114, IM115, CM115, FM115, xM115⟩ := P116
                    obtain ⟨v117, hv117, rv117⟩ := gRd IM115 (by decide) (gsz hsz (by decide)) rc_190_12.1
                    refine g_istore_n (n := 320) (L' := [(3, gJ v114), (2, gJ v67), (1, gJ v7), (0, gA n0 190)]) X dX12_factor_319 rfl (by decide) rfl rfl ?_
                    refine g_aload_n (n := 321) X 3 dX12_factor_320 rfl rfl rfl ?_
                    obtain ⟨v118, hv118, rv118⟩ := gRd IM115 (by decide) (gsz hsz (by decide)) rc_190_13.1
                    refine gg_12_13 (n := 324) (z := v118) X (by decide) (gsz hsz (by decide)) lay_190 kw_6_39 dX12_factor_321 rfl hv118 ?_
                    refine g_if_eq (n := 327) (tgt := 331) X dX12_factor_324 (by decide) (by omega) rfl (fun c119 => ?_) (fun c119 => ?_)
                    · refine g_aload_n (n := 332) X 3 dX12_factor_331 rfl rfl rfl ?_
                      refine g_iload_n (n := 333) X 2 dX12_factor_332 rfl rfl rfl ?_
                      refine g_callVi (n := 336) (As := [gJ v7]) (rest := []) (cs1 := 0) (ss1 := 0) X (s_X12_stands v7 (by omega) hsz IM115 CM115 ) okX12_stands kw_7_62 ⟨kw_7_64, kw_0_67⟩ ⟨rfl, rfl⟩ (by first | exact ⟨Nat.le_of_ble_eq_true rfl, Nat.le_of_ble_eq_true rfl⟩ | (refine ⟨?_, ?_⟩ <;> (simp only [RF, RE, RO, R_X12_here, R_X12_must, R_X12_number, R_X12_letter, R_X12_stands, R_X12_isAtOwn]; omega))) rfl (by decide) (gsz hsz (by decide)) lay_190 rfl rfl (Nat.le_of_ble_eq_true rfl) ⟨Nat.le_of_ble_eq_true rfl, Nat.le_of_ble_eq_true rfl⟩ rfl rfl dX12_factor_333 rfl (fun v120 M121 P122 => ?_)
                      obtain ⟨rfl, rv120⟩ := P122
                      refine g_istore (n := 338) (L' := [(4, gJ v120), (3, gJ v114), (2, gJ v67), (1, gJ v7), (0, gA n0 190)]) X dX12_factor_336 (by decide) rfl rfl ?_
                      refine g_iload_n (n := 339) X 2 dX12_factor_338 rfl rfl rfl ?_
                      refine g_bipush (n := 341) X dX12_factor_339 (by decide +kernel) rfl ?_
                      refine g_icmp_ne (n := 344) (tgt := 358) X dX12_factor_341 (by decide) (by omega) (by omega) rfl (fun c123 => ?_) (fun c123 => ?_)
                      · refine g_iload (n := 360) X 0 dX12_factor_358 rfl rfl ?_
                        refine g_iload_n (n := 361) X 1 dX12_factor_360 rfl rfl rfl ?_
                        refine g_icmp_le (n := 364) (tgt := 368) X dX12_factor_361 (by decide) (by omega) (by omega) rfl (fun c124 => ?_) (fun c124 => ?_)
                        · refine g_iconst (n := 369) X dX12_factor_368 rfl ?_
                          exact hq _ _ _ _ dX12_factor_369 (by omega) ⟨by omega, IM115, CM115, (gFr.c (gFr.s (gFr.s (gFr.s (gFr.s gFr.rf e63 rc_190_13.2.2 rfl) e66 rc_190_12.2.2 rfl) e110 rc_190_13.2.2 rfl) e113 rc_190_12.2.2 rfl) FM115 rfl), by have q12 := hv117; have q14 := ((gFr.at FM115 rc_190_14.2.2 rfl).trans ((congrFun (congrFun e113 _) _).trans ((gset_ne (by omega)).trans ((congrFun (congrFun e110 _) _).trans ((gset_ne (by omega)).trans ((congrFun (congrFun e66 _) _).trans ((gset_ne (by omega)).trans ((congrFun (congrFun e63 _) _).trans ((gset_ne (by omega)).trans hv2))))))))); omega⟩
                        · refine g_iconst (n := 365) X dX12_factor_364 rfl ?_
                          refine g_goto (tgt := 369) X dX12_factor_365 (by decide) ?_
                          exact hq _ _ _ _ dX12_factor_369 (by omega) ⟨by omega, IM115, CM115, (gFr.c (gFr.s (gFr.s (gFr.s (gFr.s gFr.rf e63 rc_190_13.2.2 rfl) e66 rc_190_12.2.2 rfl) e110 rc_190_13.2.2 rfl) e113 rc_190_12.2.2 rfl) FM115 rfl), by have q12 := hv117; have q14 := ((gFr.at FM115 rc_190_14.2.2 rfl).trans ((congrFun (congrFun e113 _) _).trans ((gset_ne (by omega)).trans ((congrFun (congrFun e110 _) _).trans ((gset_ne (by omega)).trans ((congrFun (congrFun e66 _) _).trans ((gset_ne (by omega)).trans ((congrFun (congrFun e63 _) _).trans ((gset_ne (by omega)).trans hv2))))))))); omega⟩
                      · refine g_iload (n := 346) X 0 dX12_factor_344 rfl rfl ?_
                        refine g_iload_n (n := 347) X 1 dX12_factor_346 rfl rfl rfl ?_
                        refine g_icmp_ge (n := 350) (tgt := 354) X dX12_factor_347 (by decide) (by omega) (by omega) rfl (fun c125 => ?_) (fun c125 => ?_)
                        · refine g_iconst (n := 355) X dX12_factor_354 rfl ?_
                          refine g_goto (tgt := 369) X dX12_factor_355 (by decide) ?_
                          exact hq _ _ _ _ dX12_factor_369 (by omega) ⟨by omega, IM115, CM115, (gFr.c (gFr.s (gFr.s (gFr.s (gFr.s gFr.rf e63 rc_190_13.2.2 rfl) e66 rc_190_12.2.2 rfl) e110 rc_190_13.2.2 rfl) e113 rc_190_12.2.2 rfl) FM115 rfl), by have q12 := hv117; have q14 := ((gFr.at FM115 rc_190_14.2.2 rfl).trans ((congrFun (congrFun e113 _) _).trans ((gset_ne (by omega)).trans ((congrFun (congrFun e110 _) _).trans ((gset_ne (by omega)).trans ((congrFun (congrFun e66 _) _).trans ((gset_ne (by omega)).trans ((congrFun (congrFun e63 _) _).trans ((gset_ne (by omega)).trans hv2))))))))); omega⟩
                        · refine g_iconst (n := 351) X dX12_factor_350 rfl ?_
                          refine g_goto (tgt := 369) X dX12_factor_351 (by decide) ?_
                          exact hq _ _ _ _ dX12_factor_369 (by omega) ⟨by omega, IM115, CM115, (gFr.c (gFr.s (gFr.s (gFr.s (gFr.s gFr.rf e63 rc_190_13.2.2 rfl) e66 rc_190_12.2.2 rfl) e110 rc_190_13.2.2 rfl) e113 rc_190_12.2.2 rfl) FM115 rfl), by have q12 := hv117; have q14 := ((gFr.at FM115 rc_190_14.2.2 rfl).trans ((congrFun (congrFun e113 _) _).trans ((gset_ne (by omega)).trans ((congrFun (congrFun e110 _) _).trans ((gset_ne (by omega)).trans ((congrFun (congrFun e66 _) _).trans ((gset_ne (by omega)).trans ((congrFun (congrFun e63 _) _).trans ((gset_ne (by omega)).trans hv2))))))))); omega⟩
                    · refine g_iconst (n := 328) X dX12_factor_327 rfl ?_
                      refine g_goto (tgt := 336) X dX12_factor_328 (by decide) ?_
                      refine g_istore (n := 338) (L' := [(4, gJ 0), (3, gJ v114), (2, gJ v67), (1, gJ v7), (0, gA n0 190)]) X dX12_factor_336 (by decide) rfl rfl ?_
                      refine g_iload_n (n := 339) X 2 dX12_factor_338 rfl rfl rfl ?_
                      refine g_bipush (n := 341) X dX12_factor_339 (by decide +kernel) rfl ?_
                      refine g_icmp_ne (n := 344) (tgt := 358) X dX12_factor_341 (by decide) (by omega) (by omega) rfl (fun c126 => ?_) (fun c126 => ?_)
                      · refine g_iload (n := 360) X 0 dX12_factor_358 rfl rfl ?_
                        refine g_iload_n (n := 361) X 1 dX12_factor_360 rfl rfl rfl ?_
                        refine g_icmp_le (n := 364) (tgt := 368) X dX12_factor_361 (by decide) (by omega) (by omega) rfl (fun c127 => ?_) (fun c127 => by exfalso; omega)
                        refine g_iconst (n := 369) X dX12_factor_368 rfl ?_
                        exact hq _ _ _ _ dX12_factor_369 (by omega) ⟨by omega, IM115, CM115, (gFr.c (gFr.s (gFr.s (gFr.s (gFr.s gFr.rf e63 rc_190_13.2.2 rfl) e66 rc_190_12.2.2 rfl) e110 rc_190_13.2.2 rfl) e113 rc_190_12.2.2 rfl) FM115 rfl), by have q12 := hv117; have q14 := ((gFr.at FM115 rc_190_14.2.2 rfl).trans ((congrFun (congrFun e113 _) _).trans ((gset_ne (by omega)).trans ((congrFun (congrFun e110 _) _).trans ((gset_ne (by omega)).trans ((congrFun (congrFun e66 _) _).trans ((gset_ne (by omega)).trans ((congrFun (congrFun e63 _) _).trans ((gset_ne (by omega)).trans hv2))))))))); omega⟩
                      · refine g_iload (n := 346) X 0 dX12_factor_344 rfl rfl ?_
                        refine g_iload_n (n := 347) X 1 dX12_factor_346 rfl rfl rfl ?_
                        refine g_icmp_ge (n := 350) (tgt := 354) X dX12_factor_347 (by decide) (by omega) (by omega) rfl (fun c128 => ?_) (fun c128 => ?_)
                        · refine g_iconst (n := 355) X dX12_factor_354 rfl ?_
                          refine g_goto (tgt := 369) X dX12_factor_355 (by decide) ?_
                          exact hq _ _ _ _ dX12_factor_369 (by omega) ⟨by omega, IM115, CM115, (gFr.c (gFr.s (gFr.s (gFr.s (gFr.s gFr.rf e63 rc_190_13.2.2 rfl) e66 rc_190_12.2.2 rfl) e110 rc_190_13.2.2 rfl) e113 rc_190_12.2.2 rfl) FM115 rfl), by have q12 := hv117; have q14 := ((gFr.at FM115 rc_190_14.2.2 rfl).trans ((congrFun (congrFun e113 _) _).trans ((gset_ne (by omega)).trans ((congrFun (congrFun e110 _) _).trans ((gset_ne (by omega)).trans ((congrFun (congrFun e66 _) _).trans ((gset_ne (by omega)).trans ((congrFun (congrFun e63 _) _).trans ((gset_ne (by omega)).trans hv2))))))))); omega⟩
                        · refine g_iconst (n := 351) X dX12_factor_350 rfl ?_
                          refine g_goto (tgt := 369) X dX12_factor_351 (by decide) ?_
                          exact hq _ _ _ _ dX12_factor_369 (by omega) ⟨by omega, IM115, CM115, (gFr.c (gFr.s (gFr.s (gFr.s (gFr.s gFr.rf e63 rc_190_13.2.2 rfl) e66 rc_190_12.2.2 rfl) e110 rc_190_13.2.2 rfl) e113 rc_190_12.2.2 rfl) FM115 rfl), by have q12 := hv117; have q14 := ((gFr.at FM115 rc_190_14.2.2 rfl).trans ((congrFun (congrFun e113 _) _).trans ((gset_ne (by omega)).trans ((congrFun (congrFun e110 _) _).trans ((gset_ne (by omega)).trans ((congrFun (congrFun e66 _) _).trans ((gset_ne (by omega)).trans ((congrFun (congrFun e63 _) _).trans ((gset_ne (by omega)).trans hv2))))))))); omega⟩
              · refine g_iload_n (n := 214) X 0 dX12_factor_213 rfl rfl rfl ?_
                refine g_bipush (n := 216) X dX12_factor_214 (by decide +kernel) rfl ?_
                refine g_icmp_eq (n := 219) (tgt := 235) X dX12_factor_216 (by decide) (by omega) (by omega) rfl (fun c129 => ?_) (fun c129 => ?_)
                · refine g_iconst (n := 236) X dX12_factor_235 rfl ?_
                  refine gp_12_13 (n := 239) X (by decide) (gsz hsz (by decide)) lay_190 kw_6_39 (by omega) dX12_factor_236 rfl ?_
                  refine G.nm (fun M130 e131 => ?_)
                  have IM130 : gI sz M130 := gI.set I rc_190_13.1 (by omega) e131
                  have CM130 : gC sz M130 := gC.set C rc_190_13.2.1 e131
                  refine g_aload_n (n := 240) X 1 dX12_factor_239 rfl rfl rfl ?_
                  refine g_dup (n := 241) X dX12_factor_240 rfl rfl ?_
                  refine gg_12_12 (n := 244) (z := v1) X (by decide) (gsz hsz (by decide)) lay_190 kw_6_38 dX12_factor_241 rfl ((congrFun (congrFun e131 _) _).trans ((gset_ne (by omega)).trans hv1)) ?_
                  refine g_aload_n (n := 245) X 1 dX12_factor_244 rfl rfl rfl ?_
                  refine gg_12_13 (n := 248) (z := 0) X (by decide) (gsz hsz (by decide)) lay_190 kw_6_39 dX12_factor_245 rfl ((congrFun (congrFun e131 _) _).trans (gset_eq _ _ _ _)) ?_
                  refine g_if_eq (n := 251) (tgt := 255) X dX12_factor_248 (by decide) (by omega) rfl (fun c132 => ?_) (fun c132 => by exfalso; omega)
                  refine g_iconst (n := 256) X dX12_factor_255 rfl ?_
                  refine g_iadd (n := 257) (z := v1 + 1) X dX12_factor_256 (by omega) rfl ?_
                  refine gp_12_12 (n := 260) X (by decide) (gsz hsz (by decide)) lay_190 kw_6_38 dX12_factor_257 rfl ?_
                  refine G.nm (fun M133 e134 => ?_)
                  have IM133 : gI sz M133 := gI.set IM130 rc_190_12.1 (by omega) e134
                  have CM133 : gC sz M133 := gC.set CM130 rc_190_12.2.1 e134
                  refine g_aload_n (n := 261) X 1 dX12_factor_260 rfl rfl rfl ?_
                  have tM133_12 : M133 190 12 = v1 + 1 := ((congrFun (congrFun e134 _) _).trans (gset_eq _ _ _ _))
                  refine g_callVi (n := 264) (As := []) (rest := []) (cs1 := 0) (ss1 := 0) X (s_X12_here  hsz IM133 CM133 ) okX12_here kw_7_26 ⟨kw_7_28, kw_0_58⟩ ⟨rfl, rfl⟩ (by first | exact ⟨Nat.le_of_ble_eq_true rfl, Nat.le_of_ble_eq_true rfl⟩ | (refine ⟨?_, ?_⟩ <;> (simp only [RF, RE, RO, R_X12_here, R_X12_must, R_X12_number, R_X12_letter, R_X12_stands, R_X12_isAtOwn]; omega))) rfl (by decide) (gsz hsz (by decide)) lay_190 rfl rfl (Nat.le_of_ble_eq_true rfl) ⟨Nat.le_of_ble_eq_true rfl, Nat.le_of_ble_eq_true rfl⟩ rfl rfl dX12_factor_261 rfl (fun v135 M136 P137 => ?_)
                  obtain ⟨rfl, rv135, xv135⟩ := P137
                  refine g_istore_n (n := 265) (L' := [(2, gJ v135), (1, gJ v7), (0, gA n0 190)]) X dX12_factor_264 rfl (by decide) rfl rfl ?_
                  refine g_aload_n (n := 266) X 2 dX12_factor_265 rfl rfl rfl ?_
                  refine g_aload_n (n := 267) X 2 dX12_factor_266 rfl rfl rfl ?_
                  refine gg_12_13 (n := 270) (z := 0) X (by decide) (gsz hsz (by decide)) lay_190 kw_6_39 dX12_factor_267 rfl ((congrFun (congrFun e134 _) _).trans ((gset_ne (by omega)).trans ((congrFun (congrFun e131 _) _).trans (gset_eq _ _ _ _)))) ?_
                  refine g_if_ne (n := 273) (tgt := 285) X dX12_factor_270 (by decide) (by omega) rfl (fun c138 => by exfalso; omega) (fun c138 => ?_)
                  refine g_iload_n (n := 274) X 0 dX12_factor_273 rfl rfl rfl ?_
                  refine g_bipush (n := 276) X dX12_factor_274 (by decide +kernel) rfl ?_
                  refine g_icmp_eq (n := 279) (tgt := 289) X dX12_factor_276 (by decide) (by omega) (by omega) rfl (fun c139 => ?_) (fun c139 => ?_)
                  · refine g_iconst (n := 290) X dX12_factor_289 rfl ?_
                    refine gp_12_13 (n := 293) X (by decide) (gsz hsz (by decide)) lay_190 kw_6_39 (by omega) dX12_factor_290 rfl ?_
                    refine G.nm (fun M140 e141 => ?_)
                    have IM140 : gI sz M140 := gI.set IM133 rc_190_13.1 (by omega) e141
                    have CM140 : gC sz M140 := gC.set CM133 rc_190_13.2.1 e141
                    refine g_aload_n (n := 294) X 2 dX12_factor_293 rfl rfl rfl ?_
                    refine g_dup (n := 295) X dX12_factor_294 rfl rfl ?_
                    refine gg_12_12 (n := 298) (z := v1 + 1) X (by decide) (gsz hsz (by decide)) lay_190 kw_6_38 dX12_factor_295 rfl ((congrFun (congrFun e141 _) _).trans ((gset_ne (by omega)).trans ((congrFun (congrFun e134 _) _).trans (gset_eq _ _ _ _)))) ?_
                    refine g_aload_n (n := 299) X 2 dX12_factor_298 rfl rfl rfl ?_
                    refine gg_12_13 (n := 302) (z := 0) X (by decide) (gsz hsz (by decide)) lay_190 kw_6_39 dX12_factor_299 rfl ((congrFun (congrFun e141 _) _).trans (gset_eq _ _ _ _)) ?_
                    refine g_if_eq (n := 305) (tgt := 309) X dX12_factor_302 (by decide) (by omega) rfl (fun c142 => ?_) (fun c142 => by exfalso; omega)
                    refine g_iconst (n := 310) X dX12_factor_309 rfl ?_
                    refine g_iadd (n := 311) (z := v1 + 2) X dX12_factor_310 (by omega) rfl ?_
                    refine gp_12_12 (n := 314) X (by decide) (gsz hsz (by decide)) lay_190 kw_6_38 dX12_factor_311 rfl ?_
                    refine G.nm (fun M143 e144 => ?_)
                    have IM143 : gI sz M143 := gI.set IM140 rc_190_12.1 (by omega) e144
                    have CM143 : gC sz M143 := gC.set CM140 rc_190_12.2.1 e144
                    refine g_aload_n (n := 315) X 2 dX12_factor_314 rfl rfl rfl ?_
                    refine g_iconst (n := 316) X dX12_factor_315 rfl ?_
                    have tM143_12 : M143 190 12 = v1 + 2 := ((congrFun (congrFun e144 _) _).trans (gset_eq _ _ _ _))
                    refine g_callVi (n := 319) (As := [gJ 2]) (rest := []) (cs1 := 0) (ss1 := 0) X (s_X12_number 2 (by omega) hsz IM143 CM143 ) okX12_number kw_7_34 ⟨kw_7_36, kw_0_60⟩ ⟨rfl, rfl⟩ (by first | exact ⟨Nat.le_of_ble_eq_true rfl, Nat.le_of_ble_eq_true rfl⟩ | (refine ⟨?_, ?_⟩ <;> (simp only [RF, RE, RO, R_X12_here, R_X12_must, R_X12_number, R_X12_letter, R_X12_stands, R_X12_isAtOwn]; omega))) rfl (by decide) (gsz hsz (by decide)) lay_190 rfl rfl (Nat.le_of_ble_eq_true rfl) ⟨Nat.le_of_ble_eq_true rfl, Nat.le_of_ble_eq_true rfl⟩ rfl rfl dX12_factor_316 rfl (fun v145 M146 P147 => ?_)
                    obtain ⟨rv145, IM146, CM146, FM146, xM146⟩ := P147
                    obtain ⟨v148, hv148, rv148⟩ := gRd IM146 (by decide) (gsz hsz (by decide)) rc_190_12.1
                    refine g_istore_n (n := 320) (L' := [(3, gJ v145), (2, gJ v135), (1, gJ v7), (0, gA n0 190)]) X dX12_factor_319 rfl (by decide) rfl rfl ?_
                    refine g_aload_n (n := 321) X 3 dX12_factor_320 rfl rfl rfl ?_
                    obtain ⟨v149, hv149, rv149⟩ := gRd IM146 (by decide) (gsz hsz (by decide)) rc_190_13.1
                    refine gg_12_13 (n := 324) (z := v149) X (by decide) (gsz hsz (by decide)) lay_190 kw_6_39 dX12_factor_321 rfl hv149 ?_
                    refine g_if_eq (n := 327) (tgt := 331) X dX12_factor_324 (by decide) (by omega) rfl (fun c150 => ?_) (fun c150 => ?_)
                    · refine g_aload_n (n := 332) X 3 dX12_factor_331 rfl rfl rfl ?_
                      refine g_iload_n (n := 333) X 2 dX12_factor_332 rfl rfl rfl ?_
                      refine g_callVi (n := 336) (As := [gJ v7]) (rest := []) (cs1 := 0) (ss1 := 0) X (s_X12_stands v7 (by omega) hsz IM146 CM146 ) okX12_stands kw_7_62 ⟨kw_7_64, kw_0_67⟩ ⟨rfl, rfl⟩ (by first | exact ⟨Nat.le_of_ble_eq_true rfl, Nat.le_of_ble_eq_true rfl⟩ | (refine ⟨?_, ?_⟩ <;> (simp only [RF, RE, RO, R_X12_here, R_X12_must, R_X12_number, R_X12_letter, R_X12_stands, R_X12_isAtOwn]; omega))) rfl (by decide) (gsz hsz (by decide)) lay_190 rfl rfl (Nat.le_of_ble_eq_true rfl) ⟨Nat.le_of_ble_eq_true rfl, Nat.le_of_ble_eq_true rfl⟩ rfl rfl dX12_factor_333 rfl (fun v151 M152 P153 => ?_)
                      obtain ⟨rfl, rv151⟩ := P153
                      refine g_istore (n := 338) (L' := [(4, gJ v151), (3, gJ v145), (2, gJ v135), (1, gJ v7), (0, gA n0 190)]) X dX12_factor_336 (by decide) rfl rfl ?_
                      refine g_iload_n (n := 339) X 2 dX12_factor_338 rfl rfl rfl ?_
                      refine g_bipush (n := 341) X dX12_factor_339 (by decide +kernel) rfl ?_
                      refine g_icmp_ne (n := 344) (tgt := 358) X dX12_factor_341 (by decide) (by omega) (by omega) rfl (fun c154 => by exfalso; omega) (fun c154 => ?_)
                      refine g_iload (n := 346) X 0 dX12_factor_344 rfl rfl ?_
                      refine g_iload_n (n := 347) X 1 dX12_factor_346 rfl rfl rfl ?_
                      refine g_icmp_ge (n := 350) (tgt := 354) X dX12_factor_347 (by decide) (by omega) (by omega) rfl (fun c155 => ?_) (fun c155 => ?_)
                      · refine g_iconst (n := 355) X dX12_factor_354 rfl ?_
                        refine g_goto (tgt := 369) X dX12_factor_355 (by decide) ?_
                        exact hq _ _ _ _ dX12_factor_369 (by omega) ⟨by omega, IM146, CM146, (gFr.c (gFr.s (gFr.s (gFr.s (gFr.s gFr.rf e131 rc_190_13.2.2 rfl) e134 rc_190_12.2.2 rfl) e141 rc_190_13.2.2 rfl) e144 rc_190_12.2.2 rfl) FM146 rfl), by have q12 := hv148; have q14 := ((gFr.at FM146 rc_190_14.2.2 rfl).trans ((congrFun (congrFun e144 _) _).trans ((gset_ne (by omega)).trans ((congrFun (congrFun e141 _) _).trans ((gset_ne (by omega)).trans ((congrFun (congrFun e134 _) _).trans ((gset_ne (by omega)).trans ((congrFun (congrFun e131 _) _).trans ((gset_ne (by omega)).trans hv2))))))))); omega⟩
                      · refine g_iconst (n := 351) X dX12_factor_350 rfl ?_
                        refine g_goto (tgt := 369) X dX12_factor_351 (by decide) ?_
                        exact hq _ _ _ _ dX12_factor_369 (by omega) ⟨by omega, IM146, CM146, (gFr.c (gFr.s (gFr.s (gFr.s (gFr.s gFr.rf e131 rc_190_13.2.2 rfl) e134 rc_190_12.2.2 rfl) e141 rc_190_13.2.2 rfl) e144 rc_190_12.2.2 rfl) FM146 rfl), by have q12 := hv148; have q14 := ((gFr.at FM146 rc_190_14.2.2 rfl).trans ((congrFun (congrFun e144 _) _).trans ((gset_ne (by omega)).trans ((congrFun (congrFun e141 _) _).trans ((gset_ne (by omega)).trans ((congrFun (congrFun e134 _) _).trans ((gset_ne (by omega)).trans ((congrFun (congrFun e131 _) _).trans ((gset_ne (by omega)).trans hv2))))))))); omega⟩
                    · refine g_iconst (n := 328) X dX12_factor_327 rfl ?_
                      refine g_goto (tgt := 336) X dX12_factor_328 (by decide) ?_
                      refine g_istore (n := 338) (L' := [(4, gJ 0), (3, gJ v145), (2, gJ v135), (1, gJ v7), (0, gA n0 190)]) X dX12_factor_336 (by decide) rfl rfl ?_
                      refine g_iload_n (n := 339) X 2 dX12_factor_338 rfl rfl rfl ?_
                      refine g_bipush (n := 341) X dX12_factor_339 (by decide +kernel) rfl ?_
                      refine g_icmp_ne (n := 344) (tgt := 358) X dX12_factor_341 (by decide) (by omega) (by omega) rfl (fun c156 => by exfalso; omega) (fun c156 => ?_)
                      refine g_iload (n := 346) X 0 dX12_factor_344 rfl rfl ?_
                      refine g_iload_n (n := 347) X 1 dX12_factor_346 rfl rfl rfl ?_
                      refine g_icmp_ge (n := 350) (tgt := 354) X dX12_factor_347 (by decide) (by omega) (by omega) rfl (fun c157 => ?_) (fun c157 => ?_)
                      · refine g_iconst (n := 355) X dX12_factor_354 rfl ?_
                        refine g_goto (tgt := 369) X dX12_factor_355 (by decide) ?_
                        exact hq _ _ _ _ dX12_factor_369 (by omega) ⟨by omega, IM146, CM146, (gFr.c (gFr.s (gFr.s (gFr.s (gFr.s gFr.rf e131 rc_190_13.2.2 rfl) e134 rc_190_12.2.2 rfl) e141 rc_190_13.2.2 rfl) e144 rc_190_12.2.2 rfl) FM146 rfl), by have q12 := hv148; have q14 := ((gFr.at FM146 rc_190_14.2.2 rfl).trans ((congrFun (congrFun e144 _) _).trans ((gset_ne (by omega)).trans ((congrFun (congrFun e141 _) _).trans ((gset_ne (by omega)).trans ((congrFun (congrFun e134 _) _).trans ((gset_ne (by omega)).trans ((congrFun (congrFun e131 _) _).trans ((gset_ne (by omega)).trans hv2))))))))); omega⟩
                      · refine g_iconst (n := 351) X dX12_factor_350 rfl ?_
                        refine g_goto (tgt := 369) X dX12_factor_351 (by decide) ?_
                        exact hq _ _ _ _ dX12_factor_369 (by omega) ⟨by omega, IM146, CM146, (gFr.c (gFr.s (gFr.s (gFr.s (gFr.s gFr.rf e131 rc_190_13.2.2 rfl) e134 rc_190_12.2.2 rfl) e141 rc_190_13.2.2 rfl) e144 rc_190_12.2.2 rfl) FM146 rfl), by have q12 := hv148; have q14 := ((gFr.at FM146 rc_190_14.2.2 rfl).trans ((congrFun (congrFun e144 _) _).trans ((gset_ne (by omega)).trans ((congrFun (congrFun e141 _) _).trans ((gset_ne (by omega)).trans ((congrFun (congrFun e134 _) _).trans ((gset_ne (by omega)).trans ((congrFun (congrFun e131 _) _).trans ((gset_ne (by omega)).trans hv2))))))))); omega⟩
                  · refine g_iload_n (n := 280) X 0 dX12_factor_279 rfl rfl rfl ?_
                    refine g_bipush (n := 282) X dX12_factor_280 (by decide +kernel) rfl ?_
                    refine g_icmp_eq (n := 285) (tgt := 289) X dX12_factor_282 (by decide) (by omega) (by omega) rfl (fun c158 => ?_) (fun c158 => ?_)
                    · refine g_iconst (n := 290) X dX12_factor_289 rfl ?_
                      refine gp_12_13 (n := 293) X (by decide) (gsz hsz (by decide)) lay_190 kw_6_39 (by omega) dX12_factor_290 rfl ?_
                      refine G.nm (fun M159 e160 => ?_)
                      have IM159 : gI sz M159 := gI.set IM133 rc_190_13.1 (by omega) e160
                      have CM159 : gC sz M159 := gC.set CM133 rc_190_13.2.1 e160
                      refine g_aload_n (n := 294) X 2 dX12_factor_293 rfl rfl rfl ?_
                      refine g_dup (n := 295) X dX12_factor_294 rfl rfl ?_
                      refine gg_12_12 (n := 298) (z := v1 + 1) X (by decide) (gsz hsz (by decide)) lay_190 kw_6_38 dX12_factor_295 rfl ((congrFun (congrFun e160 _) _).trans ((gset_ne (by omega)).trans ((congrFun (congrFun e134 _) _).trans (gset_eq _ _ _ _)))) ?_
                      refine g_aload_n (n := 299) X 2 dX12_factor_298 rfl rfl rfl ?_
                      refine gg_12_13 (n := 302) (z := 0) X (by decide) (gsz hsz (by decide)) lay_190 kw_6_39 dX12_factor_299 rfl ((congrFun (congrFun e160 _) _).trans (gset_eq _ _ _ _)) ?_
                      refine g_if_eq (n := 305) (tgt := 309) X dX12_factor_302 (by decide) (by omega) rfl (fun c161 => ?_) (fun c161 => by exfalso; omega)
                      refine g_iconst (n := 310) X dX12_factor_309 rfl ?_
                      refine g_iadd (n := 311) (z := v1 + 2) X dX12_factor_310 (by omega) rfl ?_
                      refine gp_12_12 (n := 314) X (by decide) (gsz hsz (by decide)) lay_190 kw_6_38 dX12_factor_311 rfl ?_
                      refine G.nm (fun M162 e163 => ?_)
                      have IM162 : gI sz M162 := gI.set IM159 rc_190_12.1 (by omega) e163
                      have CM162 : gC sz M162 := gC.set CM159 rc_190_12.2.1 e163
                      refine g_aload_n (n := 315) X 2 dX12_factor_314 rfl rfl rfl ?_
                      refine g_iconst (n := 316) X dX12_factor_315 rfl ?_
                      have tM162_12 : M162 190 12 = v1 + 2 := ((congrFun (congrFun e163 _) _).trans (gset_eq _ _ _ _))
                      refine g_callVi (n := 319) (As := [gJ 2]) (rest := []) (cs1 := 0) (ss1 := 0) X (s_X12_number 2 (by omega) hsz IM162 CM162 ) okX12_number kw_7_34 ⟨kw_7_36, kw_0_60⟩ ⟨rfl, rfl⟩ (by first | exact ⟨Nat.le_of_ble_eq_true rfl, Nat.le_of_ble_eq_true rfl⟩ | (refine ⟨?_, ?_⟩ <;> (simp only [RF, RE, RO, R_X12_here, R_X12_must, R_X12_number, R_X12_letter, R_X12_stands, R_X12_isAtOwn]; omega))) rfl (by decide) (gsz hsz (by decide)) lay_190 rfl rfl (Nat.le_of_ble_eq_true rfl) ⟨Nat.le_of_ble_eq_true rfl, Nat.le_of_ble_eq_true rfl⟩ rfl rfl dX12_factor_316 rfl (fun v164 M165 P166 => ?_)
                      obtain ⟨rv164, IM165, CM165, FM165, xM165⟩ := P166
                      obtain ⟨v167, hv167, rv167⟩ := gRd IM165 (by decide) (gsz hsz (by decide)) rc_190_12.1
                      refine g_istore_n (n := 320) (L' := [(3, gJ v164), (2, gJ v135), (1, gJ v7), (0, gA n0 190)]) X dX12_factor_319 rfl (by decide) rfl rfl ?_
                      refine g_aload_n (n := 321) X 3 dX12_factor_320 rfl rfl rfl ?_
                      obtain ⟨v168, hv168, rv168⟩ := gRd IM165 (by decide) (gsz hsz (by decide)) rc_190_13.1
                      refine gg_12_13 (n := 324) (z := v168) X (by decide) (gsz hsz (by decide)) lay_190 kw_6_39 dX12_factor_321 rfl hv168 ?_
                      refine g_if_eq (n := 327) (tgt := 331) X dX12_factor_324 (by decide) (by omega) rfl (fun c169 => ?_) (fun c169 => ?_)
                      · refine g_aload_n (n := 332) X 3 dX12_factor_331 rfl rfl rfl ?_
                        refine g_iload_n (n := 333) X 2 dX12_factor_332 rfl rfl rfl ?_
                        refine g_callVi (n := 336) (As := [gJ v7]) (rest := []) (cs1 := 0) (ss1 := 0) X (s_X12_stands v7 (by omega) hsz IM165 CM165 ) okX12_stands kw_7_62 ⟨kw_7_64, kw_0_67⟩ ⟨rfl, rfl⟩ (by first | exact ⟨Nat.le_of_ble_eq_true rfl, Nat.le_of_ble_eq_true rfl⟩ | (refine ⟨?_, ?_⟩ <;> (simp only [RF, RE, RO, R_X12_here, R_X12_must, R_X12_number, R_X12_letter, R_X12_stands, R_X12_isAtOwn]; omega))) rfl (by decide) (gsz hsz (by decide)) lay_190 rfl rfl (Nat.le_of_ble_eq_true rfl) ⟨Nat.le_of_ble_eq_true rfl, Nat.le_of_ble_eq_true rfl⟩ rfl rfl dX12_factor_333 rfl (fun v170 M171 P172 => ?_)
                        obtain ⟨rfl, rv170⟩ := P172
                        refine g_istore (n := 338) (L' := [(4, gJ v170), (3, gJ v164), (2, gJ v135), (1, gJ v7), (0, gA n0 190)]) X dX12_factor_336 (by decide) rfl rfl ?_
                        refine g_iload_n (n := 339) X 2 dX12_factor_338 rfl rfl rfl ?_
                        refine g_bipush (n := 341) X dX12_factor_339 (by decide +kernel) rfl ?_
                        refine g_icmp_ne (n := 344) (tgt := 358) X dX12_factor_341 (by decide) (by omega) (by omega) rfl (fun c173 => ?_) (fun c173 => by exfalso; omega)
                        refine g_iload (n := 360) X 0 dX12_factor_358 rfl rfl ?_
                        refine g_iload_n (n := 361) X 1 dX12_factor_360 rfl rfl rfl ?_
                        refine g_icmp_le (n := 364) (tgt := 368) X dX12_factor_361 (by decide) (by omega) (by omega) rfl (fun c174 => ?_) (fun c174 => ?_)
                        · refine g_iconst (n := 369) X dX12_factor_368 rfl ?_
                          exact hq _ _ _ _ dX12_factor_369 (by omega) ⟨by omega, IM165, CM165, (gFr.c (gFr.s (gFr.s (gFr.s (gFr.s gFr.rf e131 rc_190_13.2.2 rfl) e134 rc_190_12.2.2 rfl) e160 rc_190_13.2.2 rfl) e163 rc_190_12.2.2 rfl) FM165 rfl), by have q12 := hv167; have q14 := ((gFr.at FM165 rc_190_14.2.2 rfl).trans ((congrFun (congrFun e163 _) _).trans ((gset_ne (by omega)).trans ((congrFun (congrFun e160 _) _).trans ((gset_ne (by omega)).trans ((congrFun (congrFun e134 _) _).trans ((gset_ne (by omega)).trans ((congrFun (congrFun e131 _) _).trans ((gset_ne (by omega)).trans hv2))))))))); omega⟩
                        · refine g_iconst (n := 365) X dX12_factor_364 rfl ?_
                          refine g_goto (tgt := 369) X dX12_factor_365 (by decide) ?_
                          exact hq _ _ _ _ dX12_factor_369 (by omega) ⟨by omega, IM165, CM165, (gFr.c (gFr.s (gFr.s (gFr.s (gFr.s gFr.rf e131 rc_190_13.2.2 rfl) e134 rc_190_12.2.2 rfl) e160 rc_190_13.2.2 rfl) e163 rc_190_12.2.2 rfl) FM165 rfl), by have q12 := hv167; have q14 := ((gFr.at FM165 rc_190_14.2.2 rfl).trans ((congrFun (congrFun e163 _) _).trans ((gset_ne (by omega)).trans ((congrFun (congrFun e160 _) _).trans ((gset_ne (by omega)).trans ((congrFun (congrFun e134 _) _).trans ((gset_ne (by omega)).trans ((congrFun (congrFun e131 _) _).trans ((gset_ne (by omega)).trans hv2))))))))); omega⟩
                      · refine g_iconst (n := 328) X dX12_factor_327 rfl ?_
                        refine g_goto (tgt := 336) X dX12_factor_328 (by decide) ?_
                        refine g_istore (n := 338) (L' := [(4, gJ 0), (3, gJ v164), (2, gJ v135), (1, gJ v7), (0, gA n0 190)]) X dX12_factor_336 (by decide) rfl rfl ?_
                        refine g_iload_n (n := 339) X 2 dX12_factor_338 rfl rfl rfl ?_
                        refine g_bipush (n := 341) X dX12_factor_339 (by decide +kernel) rfl ?_
                        refine g_icmp_ne (n := 344) (tgt := 358) X dX12_factor_341 (by decide) (by omega) (by omega) rfl (fun c175 => ?_) (fun c175 => by exfalso; omega)
                        refine g_iload (n := 360) X 0 dX12_factor_358 rfl rfl ?_
                        refine g_iload_n (n := 361) X 1 dX12_factor_360 rfl rfl rfl ?_
                        refine g_icmp_le (n := 364) (tgt := 368) X dX12_factor_361 (by decide) (by omega) (by omega) rfl (fun c176 => ?_) (fun c176 => by exfalso; omega)
                        refine g_iconst (n := 369) X dX12_factor_368 rfl ?_
                        exact hq _ _ _ _ dX12_factor_369 (by omega) ⟨by omega, IM165, CM165, (gFr.c (gFr.s (gFr.s (gFr.s (gFr.s gFr.rf e131 rc_190_13.2.2 rfl) e134 rc_190_12.2.2 rfl) e160 rc_190_13.2.2 rfl) e163 rc_190_12.2.2 rfl) FM165 rfl), by have q12 := hv167; have q14 := ((gFr.at FM165 rc_190_14.2.2 rfl).trans ((congrFun (congrFun e163 _) _).trans ((gset_ne (by omega)).trans ((congrFun (congrFun e160 _) _).trans ((gset_ne (by omega)).trans ((congrFun (congrFun e134 _) _).trans ((gset_ne (by omega)).trans ((congrFun (congrFun e131 _) _).trans ((gset_ne (by omega)).trans hv2))))))))); omega⟩
                    · refine g_iconst (n := 286) X dX12_factor_285 rfl ?_
                      refine g_goto (tgt := 290) X dX12_factor_286 (by decide) ?_
                      refine gp_12_13 (n := 293) X (by decide) (gsz hsz (by decide)) lay_190 kw_6_39 (by omega) dX12_factor_290 rfl ?_
                      refine G.nm (fun M177 e178 => ?_)
                      have IM177 : gI sz M177 := gI.set IM133 rc_190_13.1 (by omega) e178
                      have CM177 : gC sz M177 := gC.set CM133 rc_190_13.2.1 e178
                      refine g_aload_n (n := 294) X 2 dX12_factor_293 rfl rfl rfl ?_
                      refine g_dup (n := 295) X dX12_factor_294 rfl rfl ?_
                      refine gg_12_12 (n := 298) (z := v1 + 1) X (by decide) (gsz hsz (by decide)) lay_190 kw_6_38 dX12_factor_295 rfl ((congrFun (congrFun e178 _) _).trans ((gset_ne (by omega)).trans ((congrFun (congrFun e134 _) _).trans (gset_eq _ _ _ _)))) ?_
                      refine g_aload_n (n := 299) X 2 dX12_factor_298 rfl rfl rfl ?_
                      refine gg_12_13 (n := 302) (z := 1) X (by decide) (gsz hsz (by decide)) lay_190 kw_6_39 dX12_factor_299 rfl ((congrFun (congrFun e178 _) _).trans (gset_eq _ _ _ _)) ?_
                      refine g_if_eq (n := 305) (tgt := 309) X dX12_factor_302 (by decide) (by omega) rfl (fun c179 => by exfalso; omega) (fun c179 => ?_)
                      refine g_iconst (n := 306) X dX12_factor_305 rfl ?_
                      refine g_goto (tgt := 310) X dX12_factor_306 (by decide) ?_
                      refine g_iadd (n := 311) (z := v1 + 1) X dX12_factor_310 (by omega) rfl ?_
                      refine gp_12_12 (n := 314) X (by decide) (gsz hsz (by decide)) lay_190 kw_6_38 dX12_factor_311 rfl ?_
                      refine G.nm (fun M180 e181 => ?_)
                      have IM180 : gI sz M180 := gI.set IM177 rc_190_12.1 (by omega) e181
                      have CM180 : gC sz M180 := gC.set CM177 rc_190_12.2.1 e181
                      refine g_aload_n (n := 315) X 2 dX12_factor_314 rfl rfl rfl ?_
                      refine g_iconst (n := 316) X dX12_factor_315 rfl ?_
                      have tM180_12 : M180 190 12 = v1 + 1 := ((congrFun (congrFun e181 _) _).trans (gset_eq _ _ _ _))
                      refine g_callVi (n := 319) (As := [gJ 2]) (rest := []) (cs1 := 0) (ss1 := 0) X (s_X12_number 2 (by omega) hsz IM180 CM180 ) okX12_number kw_7_34 ⟨kw_7_36, kw_0_60⟩ ⟨rfl, rfl⟩ (by first | exact ⟨Nat.le_of_ble_eq_true rfl, Nat.le_of_ble_eq_true rfl⟩ | (refine ⟨?_, ?_⟩ <;> (simp only [RF, RE, RO, R_X12_here, R_X12_must, R_X12_number, R_X12_letter, R_X12_stands, R_X12_isAtOwn]; omega))) rfl (by decide) (gsz hsz (by decide)) lay_190 rfl rfl (Nat.le_of_ble_eq_true rfl) ⟨Nat.le_of_ble_eq_true rfl, Nat.le_of_ble_eq_true rfl⟩ rfl rfl dX12_factor_316 rfl (fun v182 M183 P184 => ?_)
                      obtain ⟨rv182, IM183, CM183, FM183, xM183⟩ := P184
                      obtain ⟨v185, hv185, rv185⟩ := gRd IM183 (by decide) (gsz hsz (by decide)) rc_190_12.1
                      refine g_istore_n (n := 320) (L' := [(3, gJ v182), (2, gJ v135), (1, gJ v7), (0, gA n0 190)]) X dX12_factor_319 rfl (by decide) rfl rfl ?_
                      refine g_aload_n (n := 321) X 3 dX12_factor_320 rfl rfl rfl ?_
                      obtain ⟨v186, hv186, rv186⟩ := gRd IM183 (by decide) (gsz hsz (by decide)) rc_190_13.1
                      refine gg_12_13 (n := 324) (z := v186) X (by decide) (gsz hsz (by decide)) lay_190 kw_6_39 dX12_factor_321 rfl hv186 ?_
                      refine g_if_eq (n := 327) (tgt := 331) X dX12_factor_324 (by decide) (by omega) rfl (fun c187 => ?_) (fun c187 => ?_)
                      · refine g_aload_n (n := 332) X 3 dX12_factor_331 rfl rfl rfl ?_
                        refine g_iload_n (n := 333) X 2 dX12_factor_332 rfl rfl rfl ?_
                        refine g_callVi (n := 336) (As := [gJ v7]) (rest := []) (cs1 := 0) (ss1 := 0) X (s_X12_stands v7 (by omega) hsz IM183 CM183 ) okX12_stands kw_7_62 ⟨kw_7_64, kw_0_67⟩ ⟨rfl, rfl⟩ (by first | exact ⟨Nat.le_of_ble_eq_true rfl, Nat.le_of_ble_eq_true rfl⟩ | (refine ⟨?_, ?_⟩ <;> (simp only [RF, RE, RO, R_X12_here, R_X12_must, R_X12_number, R_X12_letter, R_X12_stands, R_X12_isAtOwn]; omega))) rfl (by decide) (gsz hsz (by decide)) lay_190 rfl rfl (Nat.le_of_ble_eq_true rfl) ⟨Nat.le_of_ble_eq_true rfl, Nat.le_of_ble_eq_true rfl⟩ rfl rfl dX12_factor_333 rfl (fun v188 M189 P190 => ?_)
                        obtain ⟨rfl, rv188⟩ := P190
                        refine g_istore (n := 338) (L' := [(4, gJ v188), (3, gJ v182), (2, gJ v135), (1, gJ v7), (0, gA n0 190)]) X dX12_factor_336 (by decide) rfl rfl ?_
                        refine g_iload_n (n := 339) X 2 dX12_factor_338 rfl rfl rfl ?_
                        refine g_bipush (n := 341) X dX12_factor_339 (by decide +kernel) rfl ?_
                        refine g_icmp_ne (n := 344) (tgt := 358) X dX12_factor_341 (by decide) (by omega) (by omega) rfl (fun c191 => ?_) (fun c191 => ?_)
                        · refine g_iload (n := 360) X 0 dX12_factor_358 rfl rfl ?_
                          refine g_iload_n (n := 361) X 1 dX12_factor_360 rfl rfl rfl ?_
                          refine g_icmp_le (n := 364) (tgt := 368) X dX12_factor_361 (by decide) (by omega) (by omega) rfl (fun c192 => ?_) (fun c192 => ?_)
                          · refine g_iconst (n := 369) X dX12_factor_368 rfl ?_
                            exact hq _ _ _ _ dX12_factor_369 (by omega) ⟨by omega, IM183, CM183, (gFr.c (gFr.s (gFr.s (gFr.s (gFr.s gFr.rf e131 rc_190_13.2.2 rfl) e134 rc_190_12.2.2 rfl) e178 rc_190_13.2.2 rfl) e181 rc_190_12.2.2 rfl) FM183 rfl), by have q12 := hv185; have q14 := ((gFr.at FM183 rc_190_14.2.2 rfl).trans ((congrFun (congrFun e181 _) _).trans ((gset_ne (by omega)).trans ((congrFun (congrFun e178 _) _).trans ((gset_ne (by omega)).trans ((congrFun (congrFun e134 _) _).trans ((gset_ne (by omega)).trans ((congrFun (congrFun e131 _) _).trans ((gset_ne (by omega)).trans hv2))))))))); omega⟩
                          · refine g_iconst (n := 365) X dX12_factor_364 rfl ?_
                            refine g_goto (tgt := 369) X dX12_factor_365 (by decide) ?_
                            exact hq _ _ _ _ dX12_factor_369 (by omega) ⟨by omega, IM183, CM183, (gFr.c (gFr.s (gFr.s (gFr.s (gFr.s gFr.rf e131 rc_190_13.2.2 rfl) e134 rc_190_12.2.2 rfl) e178 rc_190_13.2.2 rfl) e181 rc_190_12.2.2 rfl) FM183 rfl), by have q12 := hv185; have q14 := ((gFr.at FM183 rc_190_14.2.2 rfl).trans ((congrFun (congrFun e181 _) _).trans ((gset_ne (by omega)).trans ((congrFun (congrFun e178 _) _).trans ((gset_ne (by omega)).trans ((congrFun (congrFun e134 _) _).trans ((gset_ne (by omega)).trans ((congrFun (congrFun e131 _) _).trans ((gset_ne (by omega)).trans hv2))))))))); omega⟩
                        · refine g_iload (n := 346) X 0 dX12_factor_344 rfl rfl ?_
                          refine g_iload_n (n := 347) X 1 dX12_factor_346 rfl rfl rfl ?_
                          refine g_icmp_ge (n := 350) (tgt := 354) X dX12_factor_347 (by decide) (by omega) (by omega) rfl (fun c193 => ?_) (fun c193 => ?_)
                          · refine g_iconst (n := 355) X dX12_factor_354 rfl ?_
                            refine g_goto (tgt := 369) X dX12_factor_355 (by decide) ?_
                            exact hq _ _ _ _ dX12_factor_369 (by omega) ⟨by omega, IM183, CM183, (gFr.c (gFr.s (gFr.s (gFr.s (gFr.s gFr.rf e131 rc_190_13.2.2 rfl) e134 rc_190_12.2.2 rfl) e178 rc_190_13.2.2 rfl) e181 rc_190_12.2.2 rfl) FM183 rfl), by have q12 := hv185; have q14 := ((gFr.at FM183 rc_190_14.2.2 rfl).trans ((congrFun (congrFun e181 _) _).trans ((gset_ne (by omega)).trans ((congrFun (congrFun e178 _) _).trans ((gset_ne (by omega)).trans ((congrFun (congrFun e134 _) _).trans ((gset_ne (by omega)).trans ((congrFun (congrFun e131 _) _).trans ((gset_ne (by omega)).trans hv2))))))))); omega⟩
                          · refine g_iconst (n := 351) X dX12_factor_350 rfl ?_
                            refine g_goto (tgt := 369) X dX12_factor_351 (by decide) ?_
                            exact hq _ _ _ _ dX12_factor_369 (by omega) ⟨by omega, IM183, CM183, (gFr.c (gFr.s (gFr.s (gFr.s (gFr.s gFr.rf e131 rc_190_13.2.2 rfl) e134 rc_190_12.2.2 rfl) e178 rc_190_13.2.2 rfl) e181 rc_190_12.2.2 rfl) FM183 rfl), by have q12 := hv185; have q14 := ((gFr.at FM183 rc_190_14.2.2 rfl).trans ((congrFun (congrFun e181 _) _).trans ((gset_ne (by omega)).trans ((congrFun (congrFun e178 _) _).trans ((gset_ne (by omega)).trans ((congrFun (congrFun e134 _) _).trans ((gset_ne (by omega)).trans ((congrFun (congrFun e131 _) _).trans ((gset_ne (by omega)).trans hv2))))))))); omega⟩
                      · refine g_iconst (n := 328) X dX12_factor_327 rfl ?_
                        refine g_goto (tgt := 336) X dX12_factor_328 (by decide) ?_
                        refine g_istore (n := 338) (L' := [(4, gJ 0), (3, gJ v182), (2, gJ v135), (1, gJ v7), (0, gA n0 190)]) X dX12_factor_336 (by decide) rfl rfl ?_
                        refine g_iload_n (n := 339) X 2 dX12_factor_338 rfl rfl rfl ?_
                        refine g_bipush (n := 341) X dX12_factor_339 (by decide +kernel) rfl ?_
                        refine g_icmp_ne (n := 344) (tgt := 358) X dX12_factor_341 (by decide) (by omega) (by omega) rfl (fun c194 => ?_) (fun c194 => ?_)
                        · refine g_iload (n := 360) X 0 dX12_factor_358 rfl rfl ?_
                          refine g_iload_n (n := 361) X 1 dX12_factor_360 rfl rfl rfl ?_
                          refine g_icmp_le (n := 364) (tgt := 368) X dX12_factor_361 (by decide) (by omega) (by omega) rfl (fun c195 => ?_) (fun c195 => by exfalso; omega)
                          refine g_iconst (n := 369) X dX12_factor_368 rfl ?_
                          exact hq _ _ _ _ dX12_factor_369 (by omega) ⟨by omega, IM183, CM183, (gFr.c (gFr.s (gFr.s (gFr.s (gFr.s gFr.rf e131 rc_190_13.2.2 rfl) e134 rc_190_12.2.2 rfl) e178 rc_190_13.2.2 rfl) e181 rc_190_12.2.2 rfl) FM183 rfl), by have q12 := hv185; have q14 := ((gFr.at FM183 rc_190_14.2.2 rfl).trans ((congrFun (congrFun e181 _) _).trans ((gset_ne (by omega)).trans ((congrFun (congrFun e178 _) _).trans ((gset_ne (by omega)).trans ((congrFun (congrFun e134 _) _).trans ((gset_ne (by omega)).trans ((congrFun (congrFun e131 _) _).trans ((gset_ne (by omega)).trans hv2))))))))); omega⟩
                        · refine g_iload (n := 346) X 0 dX12_factor_344 rfl rfl ?_
                          refine g_iload_n (n := 347) X 1 dX12_factor_346 rfl rfl rfl ?_
                          refine g_icmp_ge (n := 350) (tgt := 354) X dX12_factor_347 (by decide) (by omega) (by omega) rfl (fun c196 => ?_) (fun c196 => ?_)
                          · refine g_iconst (n := 355) X dX12_factor_354 rfl ?_
                            refine g_goto (tgt := 369) X dX12_factor_355 (by decide) ?_
                            exact hq _ _ _ _ dX12_factor_369 (by omega) ⟨by omega, IM183, CM183, (gFr.c (gFr.s (gFr.s (gFr.s (gFr.s gFr.rf e131 rc_190_13.2.2 rfl) e134 rc_190_12.2.2 rfl) e178 rc_190_13.2.2 rfl) e181 rc_190_12.2.2 rfl) FM183 rfl), by have q12 := hv185; have q14 := ((gFr.at FM183 rc_190_14.2.2 rfl).trans ((congrFun (congrFun e181 _) _).trans ((gset_ne (by omega)).trans ((congrFun (congrFun e178 _) _).trans ((gset_ne (by omega)).trans ((congrFun (congrFun e134 _) _).trans ((gset_ne (by omega)).trans ((congrFun (congrFun e131 _) _).trans ((gset_ne (by omega)).trans hv2))))))))); omega⟩
                          · refine g_iconst (n := 351) X dX12_factor_350 rfl ?_
                            refine g_goto (tgt := 369) X dX12_factor_351 (by decide) ?_
                            exact hq _ _ _ _ dX12_factor_369 (by omega) ⟨by omega, IM183, CM183, (gFr.c (gFr.s (gFr.s (gFr.s (gFr.s gFr.rf e131 rc_190_13.2.2 rfl) e134 rc_190_12.2.2 rfl) e178 rc_190_13.2.2 rfl) e181 rc_190_12.2.2 rfl) FM183 rfl), by have q12 := hv185; have q14 := ((gFr.at FM183 rc_190_14.2.2 rfl).trans ((congrFun (congrFun e181 _) _).trans ((gset_ne (by omega)).trans ((congrFun (congrFun e178 _) _).trans ((gset_ne (by omega)).trans ((congrFun (congrFun e134 _) _).trans ((gset_ne (by omega)).trans ((congrFun (congrFun e131 _) _).trans ((gset_ne (by omega)).trans hv2))))))))); omega⟩
                · refine g_iload_n (n := 220) X 0 dX12_factor_219 rfl rfl rfl ?_
                  refine g_bipush (n := 222) X dX12_factor_220 (by decide +kernel) rfl ?_
                  refine g_icmp_eq (n := 225) (tgt := 235) X dX12_factor_222 (by decide) (by omega) (by omega) rfl (fun c197 => ?_) (fun c197 => ?_)
                  · refine g_iconst (n := 236) X dX12_factor_235 rfl ?_
                    refine gp_12_13 (n := 239) X (by decide) (gsz hsz (by decide)) lay_190 kw_6_39 (by omega) dX12_factor_236 rfl ?_
                    refine G.nm (fun M198 e199 => ?_)
                    have IM198 : gI sz M198 := gI.set I rc_190_13.1 (by omega) e199
                    have CM198 : gC sz M198 := gC.set C rc_190_13.2.1 e199
                    refine g_aload_n (n := 240) X 1 dX12_factor_239 rfl rfl rfl ?_
                    refine g_dup (n := 241) X dX12_factor_240 rfl rfl ?_
                    refine gg_12_12 (n := 244) (z := v1) X (by decide) (gsz hsz (by decide)) lay_190 kw_6_38 dX12_factor_241 rfl ((congrFun (congrFun e199 _) _).trans ((gset_ne (by omega)).trans hv1)) ?_
                    refine g_aload_n (n := 245) X 1 dX12_factor_244 rfl rfl rfl ?_
                    refine gg_12_13 (n := 248) (z := 0) X (by decide) (gsz hsz (by decide)) lay_190 kw_6_39 dX12_factor_245 rfl ((congrFun (congrFun e199 _) _).trans (gset_eq _ _ _ _)) ?_
                    refine g_if_eq (n := 251) (tgt := 255) X dX12_factor_248 (by decide) (by omega) rfl (fun c200 => ?_) (fun c200 => by exfalso; omega)
                    refine g_iconst (n := 256) X dX12_factor_255 rfl ?_
                    refine g_iadd (n := 257) (z := v1 + 1) X dX12_factor_256 (by omega) rfl ?_
                    refine gp_12_12 (n := 260) X (by decide) (gsz hsz (by decide)) lay_190 kw_6_38 dX12_factor_257 rfl ?_
                    refine G.nm (fun M201 e202 => ?_)
                    have IM201 : gI sz M201 := gI.set IM198 rc_190_12.1 (by omega) e202
                    have CM201 : gC sz M201 := gC.set CM198 rc_190_12.2.1 e202
                    refine g_aload_n (n := 261) X 1 dX12_factor_260 rfl rfl rfl ?_
                    have tM201_12 : M201 190 12 = v1 + 1 := ((congrFun (congrFun e202 _) _).trans (gset_eq _ _ _ _))
                    refine g_callVi (n := 264) (As := []) (rest := []) (cs1 := 0) (ss1 := 0) X (s_X12_here  hsz IM201 CM201 ) okX12_here kw_7_26 ⟨kw_7_28, kw_0_58⟩ ⟨rfl, rfl⟩ (by first | exact ⟨Nat.le_of_ble_eq_true rfl, Nat.le_of_ble_eq_true rfl⟩ | (refine ⟨?_, ?_⟩ <;> (simp only [RF, RE, RO, R_X12_here, R_X12_must, R_X12_number, R_X12_letter, R_X12_stands, R_X12_isAtOwn]; omega))) rfl (by decide) (gsz hsz (by decide)) lay_190 rfl rfl (Nat.le_of_ble_eq_true rfl) ⟨Nat.le_of_ble_eq_true rfl, Nat.le_of_ble_eq_true rfl⟩ rfl rfl dX12_factor_261 rfl (fun v203 M204 P205 => ?_)
                    obtain ⟨rfl, rv203, xv203⟩ := P205
                    refine g_istore_n (n := 265) (L' := [(2, gJ v203), (1, gJ v7), (0, gA n0 190)]) X dX12_factor_264 rfl (by decide) rfl rfl ?_
                    refine g_aload_n (n := 266) X 2 dX12_factor_265 rfl rfl rfl ?_
                    refine g_aload_n (n := 267) X 2 dX12_factor_266 rfl rfl rfl ?_
                    refine gg_12_13 (n := 270) (z := 0) X (by decide) (gsz hsz (by decide)) lay_190 kw_6_39 dX12_factor_267 rfl ((congrFun (congrFun e202 _) _).trans ((gset_ne (by omega)).trans ((congrFun (congrFun e199 _) _).trans (gset_eq _ _ _ _)))) ?_
                    refine g_if_ne (n := 273) (tgt := 285) X dX12_factor_270 (by decide) (by omega) rfl (fun c206 => by exfalso; omega) (fun c206 => ?_)
                    refine g_iload_n (n := 274) X 0 dX12_factor_273 rfl rfl rfl ?_
                    refine g_bipush (n := 276) X dX12_factor_274 (by decide +kernel) rfl ?_
                    refine g_icmp_eq (n := 279) (tgt := 289) X dX12_factor_276 (by decide) (by omega) (by omega) rfl (fun c207 => ?_) (fun c207 => ?_)
                    · refine g_iconst (n := 290) X dX12_factor_289 rfl ?_
                      refine gp_12_13 (n := 293) X (by decide) (gsz hsz (by decide)) lay_190 kw_6_39 (by omega) dX12_factor_290 rfl ?_
                      refine G.nm (fun M208 e209 => ?_)
                      have IM208 : gI sz M208 := gI.set IM201 rc_190_13.1 (by omega) e209
                      have CM208 : gC sz M208 := gC.set CM201 rc_190_13.2.1 e209
                      refine g_aload_n (n := 294) X 2 dX12_factor_293 rfl rfl rfl ?_
                      refine g_dup (n := 295) X dX12_factor_294 rfl rfl ?_
                      refine gg_12_12 (n := 298) (z := v1 + 1) X (by decide) (gsz hsz (by decide)) lay_190 kw_6_38 dX12_factor_295 rfl ((congrFun (congrFun e209 _) _).trans ((gset_ne (by omega)).trans ((congrFun (congrFun e202 _) _).trans (gset_eq _ _ _ _)))) ?_
                      refine g_aload_n (n := 299) X 2 dX12_factor_298 rfl rfl rfl ?_
                      refine gg_12_13 (n := 302) (z := 0) X (by decide) (gsz hsz (by decide)) lay_190 kw_6_39 dX12_factor_299 rfl ((congrFun (congrFun e209 _) _).trans (gset_eq _ _ _ _)) ?_
                      refine g_if_eq (n := 305) (tgt := 309) X dX12_factor_302 (by decide) (by omega) rfl (fun c210 => ?_) (fun c210 => by exfalso; omega)
                      refine g_iconst (n := 310) X dX12_factor_309 rfl ?_
                      refine g_iadd (n := 311) (z := v1 + 2) X dX12_factor_310 (by omega) rfl ?_
                      refine gp_12_12 (n := 314) X (by decide) (gsz hsz (by decide)) lay_190 kw_6_38 dX12_factor_311 rfl ?_
                      refine G.nm (fun M211 e212 => ?_)
                      have IM211 : gI sz M211 := gI.set IM208 rc_190_12.1 (by omega) e212
                      have CM211 : gC sz M211 := gC.set CM208 rc_190_12.2.1 e212
                      refine g_aload_n (n := 315) X 2 dX12_factor_314 rfl rfl rfl ?_
                      refine g_iconst (n := 316) X dX12_factor_315 rfl ?_
                      have tM211_12 : M211 190 12 = v1 + 2 := ((congrFun (congrFun e212 _) _).trans (gset_eq _ _ _ _))
                      refine g_callVi (n := 319) (As := [gJ 2]) (rest := []) (cs1 := 0) (ss1 := 0) X (s_X12_number 2 (by omega) hsz IM211 CM211 ) okX12_number kw_7_34 ⟨kw_7_36, kw_0_60⟩ ⟨rfl, rfl⟩ (by first | exact ⟨Nat.le_of_ble_eq_true rfl, Nat.le_of_ble_eq_true rfl⟩ | (refine ⟨?_, ?_⟩ <;> (simp only [RF, RE, RO, R_X12_here, R_X12_must, R_X12_number, R_X12_letter, R_X12_stands, R_X12_isAtOwn]; omega))) rfl (by decide) (gsz hsz (by decide)) lay_190 rfl rfl (Nat.le_of_ble_eq_true rfl) ⟨Nat.le_of_ble_eq_true rfl, Nat.le_of_ble_eq_true rfl⟩ rfl rfl dX12_factor_316 rfl (fun v213 M214 P215 => ?_)
                      obtain ⟨rv213, IM214, CM214, FM214, xM214⟩ := P215
                      obtain ⟨v216, hv216, rv216⟩ := gRd IM214 (by decide) (gsz hsz (by decide)) rc_190_12.1
                      refine g_istore_n (n := 320) (L' := [(3, gJ v213), (2, gJ v203), (1, gJ v7), (0, gA n0 190)]) X dX12_factor_319 rfl (by decide) rfl rfl ?_
                      refine g_aload_n (n := 321) X 3 dX12_factor_320 rfl rfl rfl ?_
                      obtain ⟨v217, hv217, rv217⟩ := gRd IM214 (by decide) (gsz hsz (by decide)) rc_190_13.1
                      refine gg_12_13 (n := 324) (z := v217) X (by decide) (gsz hsz (by decide)) lay_190 kw_6_39 dX12_factor_321 rfl hv217 ?_
                      refine g_if_eq (n := 327) (tgt := 331) X dX12_factor_324 (by decide) (by omega) rfl (fun c218 => ?_) (fun c218 => ?_)
                      · refine g_aload_n (n := 332) X 3 dX12_factor_331 rfl rfl rfl ?_
                        refine g_iload_n (n := 333) X 2 dX12_factor_332 rfl rfl rfl ?_
                        refine g_callVi (n := 336) (As := [gJ v7]) (rest := []) (cs1 := 0) (ss1 := 0) X (s_X12_stands v7 (by omega) hsz IM214 CM214 ) okX12_stands kw_7_62 ⟨kw_7_64, kw_0_67⟩ ⟨rfl, rfl⟩ (by first | exact ⟨Nat.le_of_ble_eq_true rfl, Nat.le_of_ble_eq_true rfl⟩ | (refine ⟨?_, ?_⟩ <;> (simp only [RF, RE, RO, R_X12_here, R_X12_must, R_X12_number, R_X12_letter, R_X12_stands, R_X12_isAtOwn]; omega))) rfl (by decide) (gsz hsz (by decide)) lay_190 rfl rfl (Nat.le_of_ble_eq_true rfl) ⟨Nat.le_of_ble_eq_true rfl, Nat.le_of_ble_eq_true rfl⟩ rfl rfl dX12_factor_333 rfl (fun v219 M220 P221 => ?_)
                        obtain ⟨rfl, rv219⟩ := P221
                        refine g_istore (n := 338) (L' := [(4, gJ v219), (3, gJ v213), (2, gJ v203), (1, gJ v7), (0, gA n0 190)]) X dX12_factor_336 (by decide) rfl rfl ?_
                        refine g_iload_n (n := 339) X 2 dX12_factor_338 rfl rfl rfl ?_
                        refine g_bipush (n := 341) X dX12_factor_339 (by decide +kernel) rfl ?_
                        refine g_icmp_ne (n := 344) (tgt := 358) X dX12_factor_341 (by decide) (by omega) (by omega) rfl (fun c222 => by exfalso; omega) (fun c222 => ?_)
                        refine g_iload (n := 346) X 0 dX12_factor_344 rfl rfl ?_
                        refine g_iload_n (n := 347) X 1 dX12_factor_346 rfl rfl rfl ?_
                        refine g_icmp_ge (n := 350) (tgt := 354) X dX12_factor_347 (by decide) (by omega) (by omega) rfl (fun c223 => ?_) (fun c223 => ?_)
                        · refine g_iconst (n := 355) X dX12_factor_354 rfl ?_
                          refine g_goto (tgt := 369) X dX12_factor_355 (by decide) ?_
                          exact hq _ _ _ _ dX12_factor_369 (by omega) ⟨by omega, IM214, CM214, (gFr.c (gFr.s (gFr.s (gFr.s (gFr.s gFr.rf e199 rc_190_13.2.2 rfl) e202 rc_190_12.2.2 rfl) e209 rc_190_13.2.2 rfl) e212 rc_190_12.2.2 rfl) FM214 rfl), by have q12 := hv216; have q14 := ((gFr.at FM214 rc_190_14.2.2 rfl).trans ((congrFun (congrFun e212 _) _).trans ((gset_ne (by omega)).trans ((congrFun (congrFun e209 _) _).trans ((gset_ne (by omega)).trans ((congrFun (congrFun e202 _) _).trans ((gset_ne (by omega)).trans ((congrFun (congrFun e199 _) _).trans ((gset_ne (by omega)).trans hv2))))))))); omega⟩
                        · refine g_iconst (n := 351) X dX12_factor_350 rfl ?_
                          refine g_goto (tgt := 369) X dX12_factor_351 (by decide) ?_
                          exact hq _ _ _ _ dX12_factor_369 (by omega) ⟨by omega, IM214, CM214, (gFr.c (gFr.s (gFr.s (gFr.s (gFr.s gFr.rf e199 rc_190_13.2.2 rfl) e202 rc_190_12.2.2 rfl) e209 rc_190_13.2.2 rfl) e212 rc_190_12.2.2 rfl) FM214 rfl), by have q12 := hv216; have q14 := ((gFr.at FM214 rc_190_14.2.2 rfl).trans ((congrFun (congrFun e212 _) _).trans ((gset_ne (by omega)).trans ((congrFun (congrFun e209 _) _).trans ((gset_ne (by omega)).trans ((congrFun (congrFun e202 _) _).trans ((gset_ne (by omega)).trans ((congrFun (congrFun e199 _) _).trans ((gset_ne (by omega)).trans hv2))))))))); omega⟩
                      · refine g_iconst (n := 328) X dX12_factor_327 rfl ?_
                        refine g_goto (tgt := 336) X dX12_factor_328 (by decide) ?_
                        refine g_istore (n := 338) (L' := [(4, gJ 0), (3, gJ v213), (2, gJ v203), (1, gJ v7), (0, gA n0 190)]) X dX12_factor_336 (by decide) rfl rfl ?_
                        refine g_iload_n (n := 339) X 2 dX12_factor_338 rfl rfl rfl ?_
                        refine g_bipush (n := 341) X dX12_factor_339 (by decide +kernel) rfl ?_
                        refine g_icmp_ne (n := 344) (tgt := 358) X dX12_factor_341 (by decide) (by omega) (by omega) rfl (fun c224 => by exfalso; omega) (fun c224 => ?_)
                        refine g_iload (n := 346) X 0 dX12_factor_344 rfl rfl ?_
                        refine g_iload_n (n := 347) X 1 dX12_factor_346 rfl rfl rfl ?_
                        refine g_icmp_ge (n := 350) (tgt := 354) X dX12_factor_347 (by decide) (by omega) (by omega) rfl (fun c225 => ?_) (fun c225 => ?_)
                        · refine g_iconst (n := 355) X dX12_factor_354 rfl ?_
                          refine g_goto (tgt := 369) X dX12_factor_355 (by decide) ?_
                          exact hq _ _ _ _ dX12_factor_369 (by omega) ⟨by omega, IM214, CM214, (gFr.c (gFr.s (gFr.s (gFr.s (gFr.s gFr.rf e199 rc_190_13.2.2 rfl) e202 rc_190_12.2.2 rfl) e209 rc_190_13.2.2 rfl) e212 rc_190_12.2.2 rfl) FM214 rfl), by have q12 := hv216; have q14 := ((gFr.at FM214 rc_190_14.2.2 rfl).trans ((congrFun (congrFun e212 _) _).trans ((gset_ne (by omega)).trans ((congrFun (congrFun e209 _) _).trans ((gset_ne (by omega)).trans ((congrFun (congrFun e202 _) _).trans ((gset_ne (by omega)).trans ((congrFun (congrFun e199 _) _).trans ((gset_ne (by omega)).trans hv2))))))))); omega⟩
                        · refine g_iconst (n := 351) X dX12_factor_350 rfl ?_
                          refine g_goto (tgt := 369) X dX12_factor_351 (by decide) ?_
                          exact hq _ _ _ _ dX12_factor_369 (by omega) ⟨by omega, IM214, CM214, (gFr.c (gFr.s (gFr.s (gFr.s (gFr.s gFr.rf e199 rc_190_13.2.2 rfl) e202 rc_190_12.2.2 rfl) e209 rc_190_13.2.2 rfl) e212 rc_190_12.2.2 rfl) FM214 rfl), by have q12 := hv216; have q14 := ((gFr.at FM214 rc_190_14.2.2 rfl).trans ((congrFun (congrFun e212 _) _).trans ((gset_ne (by omega)).trans ((congrFun (congrFun e209 _) _).trans ((gset_ne (by omega)).trans ((congrFun (congrFun e202 _) _).trans ((gset_ne (by omega)).trans ((congrFun (congrFun e199 _) _).trans ((gset_ne (by omega)).trans hv2))))))))); omega⟩
                    · refine g_iload_n (n := 280) X 0 dX12_factor_279 rfl rfl rfl ?_
                      refine g_bipush (n := 282) X dX12_factor_280 (by decide +kernel) rfl ?_
                      refine g_icmp_eq (n := 285) (tgt := 289) X dX12_factor_282 (by decide) (by omega) (by omega) rfl (fun c226 => ?_) (fun c226 => ?_)
                      · refine g_iconst (n := 290) X dX12_factor_289 rfl ?_
                        refine gp_12_13 (n := 293) X (by decide) (gsz hsz (by decide)) lay_190 kw_6_39 (by omega) dX12_factor_290 rfl ?_
                        refine G.nm (fun M227 e228 => ?_)
                        have IM227 : gI sz M227 := gI.set IM201 rc_190_13.1 (by omega) e228
                        have CM227 : gC sz M227 := gC.set CM201 rc_190_13.2.1 e228
                        refine g_aload_n (n := 294) X 2 dX12_factor_293 rfl rfl rfl ?_
                        refine g_dup (n := 295) X dX12_factor_294 rfl rfl ?_
                        refine gg_12_12 (n := 298) (z := v1 + 1) X (by decide) (gsz hsz (by decide)) lay_190 kw_6_38 dX12_factor_295 rfl ((congrFun (congrFun e228 _) _).trans ((gset_ne (by omega)).trans ((congrFun (congrFun e202 _) _).trans (gset_eq _ _ _ _)))) ?_
                        refine g_aload_n (n := 299) X 2 dX12_factor_298 rfl rfl rfl ?_
                        refine gg_12_13 (n := 302) (z := 0) X (by decide) (gsz hsz (by decide)) lay_190 kw_6_39 dX12_factor_299 rfl ((congrFun (congrFun e228 _) _).trans (gset_eq _ _ _ _)) ?_
                        refine g_if_eq (n := 305) (tgt := 309) X dX12_factor_302 (by decide) (by omega) rfl (fun c229 => ?_) (fun c229 => by exfalso; omega)
                        refine g_iconst (n := 310) X dX12_factor_309 rfl ?_
                        refine g_iadd (n := 311) (z := v1 + 2) X dX12_factor_310 (by omega) rfl ?_
                        refine gp_12_12 (n := 314) X (by decide) (gsz hsz (by decide)) lay_190 kw_6_38 dX12_factor_311 rfl ?_
                        refine G.nm (fun M230 e231 => ?_)
                        have IM230 : gI sz M230 := gI.set IM227 rc_190_12.1 (by omega) e231
                        have CM230 : gC sz M230 := gC.set CM227 rc_190_12.2.1 e231
                        refine g_aload_n (n := 315) X 2 dX12_factor_314 rfl rfl rfl ?_
                        refine g_iconst (n := 316) X dX12_factor_315 rfl ?_
                        have tM230_12 : M230 190 12 = v1 + 2 := ((congrFun (congrFun e231 _) _).trans (gset_eq _ _ _ _))
                        refine g_callVi (n := 319) (As := [gJ 2]) (rest := []) (cs1 := 0) (ss1 := 0) X (s_X12_number 2 (by omega) hsz IM230 CM230 ) okX12_number kw_7_34 ⟨kw_7_36, kw_0_60⟩ ⟨rfl, rfl⟩ (by first | exact ⟨Nat.le_of_ble_eq_true rfl, Nat.le_of_ble_eq_true rfl⟩ | (refine ⟨?_, ?_⟩ <;> (simp only [RF, RE, RO, R_X12_here, R_X12_must, R_X12_number, R_X12_letter, R_X12_stands, R_X12_isAtOwn]; omega))) rfl (by decide) (gsz hsz (by decide)) lay_190 rfl rfl (Nat.le_of_ble_eq_true rfl) ⟨Nat.le_of_ble_eq_true rfl, Nat.le_of_ble_eq_true rfl⟩ rfl rfl dX12_factor_316 rfl (fun v232 M233 P234 => ?_)
                        obtain ⟨rv232, IM233, CM233, FM233, xM233⟩ := P234
                        obtain ⟨v235, hv235, rv235⟩ := gRd IM233 (by decide) (gsz hsz (by decide)) rc_190_12.1
                        refine g_istore_n (n := 320) (L' := [(3, gJ v232), (2, gJ v203), (1, gJ v7), (0, gA n0 190)]) X dX12_factor_319 rfl (by decide) rfl rfl ?_
                        refine g_aload_n (n := 321) X 3 dX12_factor_320 rfl rfl rfl ?_
                        obtain ⟨v236, hv236, rv236⟩ := gRd IM233 (by decide) (gsz hsz (by decide)) rc_190_13.1
                        refine gg_12_13 (n := 324) (z := v236) X (by decide) (gsz hsz (by decide)) lay_190 kw_6_39 dX12_factor_321 rfl hv236 ?_
                        refine g_if_eq (n := 327) (tgt := 331) X dX12_factor_324 (by decide) (by omega) rfl (fun c237 => ?_) (fun c237 => ?_)
                        · refine g_aload_n (n := 332) X 3 dX12_factor_331 rfl rfl rfl ?_
                          refine g_iload_n (n := 333) X 2 dX12_factor_332 rfl rfl rfl ?_
                          refine g_callVi (n := 336) (As := [gJ v7]) (rest := []) (cs1 := 0) (ss1 := 0) X (s_X12_stands v7 (by omega) hsz IM233 CM233 ) okX12_stands kw_7_62 ⟨kw_7_64, kw_0_67⟩ ⟨rfl, rfl⟩ (by first | exact ⟨Nat.le_of_ble_eq_true rfl, Nat.le_of_ble_eq_true rfl⟩ | (refine ⟨?_, ?_⟩ <;> (simp only [RF, RE, RO, R_X12_here, R_X12_must, R_X12_number, R_X12_letter, R_X12_stands, R_X12_isAtOwn]; omega))) rfl (by decide) (gsz hsz (by decide)) lay_190 rfl rfl (Nat.le_of_ble_eq_true rfl) ⟨Nat.le_of_ble_eq_true rfl, Nat.le_of_ble_eq_true rfl⟩ rfl rfl dX12_factor_333 rfl (fun v238 M239 P240 => ?_)
                          obtain ⟨rfl, rv238⟩ := P240
                          refine g_istore (n := 338) (L' := [(4, gJ v238), (3, gJ v232), (2, gJ v203), (1, gJ v7), (0, gA n0 190)]) X dX12_factor_336 (by decide) rfl rfl ?_
                          refine g_iload_n (n := 339) X 2 dX12_factor_338 rfl rfl rfl ?_
                          refine g_bipush (n := 341) X dX12_factor_339 (by decide +kernel) rfl ?_
                          refine g_icmp_ne (n := 344) (tgt := 358) X dX12_factor_341 (by decide) (by omega) (by omega) rfl (fun c241 => ?_) (fun c241 => by exfalso; omega)
                          refine g_iload (n := 360) X 0 dX12_factor_358 rfl rfl ?_
                          refine g_iload_n (n := 361) X 1 dX12_factor_360 rfl rfl rfl ?_
                          refine g_icmp_le (n := 364) (tgt := 368) X dX12_factor_361 (by decide) (by omega) (by omega) rfl (fun c242 => ?_) (fun c242 => ?_)
                          · refine g_iconst (n := 369) X dX12_factor_368 rfl ?_
                            exact hq _ _ _ _ dX12_factor_369 (by omega) ⟨by omega, IM233, CM233, (gFr.c (gFr.s (gFr.s (gFr.s (gFr.s gFr.rf e199 rc_190_13.2.2 rfl) e202 rc_190_12.2.2 rfl) e228 rc_190_13.2.2 rfl) e231 rc_190_12.2.2 rfl) FM233 rfl), by have q12 := hv235; have q14 := ((gFr.at FM233 rc_190_14.2.2 rfl).trans ((congrFun (congrFun e231 _) _).trans ((gset_ne (by omega)).trans ((congrFun (congrFun e228 _) _).trans ((gset_ne (by omega)).trans ((congrFun (congrFun e202 _) _).trans ((gset_ne (by omega)).trans ((congrFun (congrFun e199 _) _).trans ((gset_ne (by omega)).trans hv2))))))))); omega⟩
                          · refine g_iconst (n := 365) X dX12_factor_364 rfl ?_
                            refine g_goto (tgt := 369) X dX12_factor_365 (by decide) ?_
                            exact hq _ _ _ _ dX12_factor_369 (by omega) ⟨by omega, IM233, CM233, (gFr.c (gFr.s (gFr.s (gFr.s (gFr.s gFr.rf e199 rc_190_13.2.2 rfl) e202 rc_190_12.2.2 rfl) e228 rc_190_13.2.2 rfl) e231 rc_190_12.2.2 rfl) FM233 rfl), by have q12 := hv235; have q14 := ((gFr.at FM233 rc_190_14.2.2 rfl).trans ((congrFun (congrFun e231 _) _).trans ((gset_ne (by omega)).trans ((congrFun (congrFun e228 _) _).trans ((gset_ne (by omega)).trans ((congrFun (congrFun e202 _) _).trans ((gset_ne (by omega)).trans ((congrFun (congrFun e199 _) _).trans ((gset_ne (by omega)).trans hv2))))))))); omega⟩
                        · refine g_iconst (n := 328) X dX12_factor_327 rfl ?_
                          refine g_goto (tgt := 336) X dX12_factor_328 (by decide) ?_
                          refine g_istore (n := 338) (L' := [(4, gJ 0), (3, gJ v232), (2, gJ v203), (1, gJ v7), (0, gA n0 190)]) X dX12_factor_336 (by decide) rfl rfl ?_
                          refine g_iload_n (n := 339) X 2 dX12_factor_338 rfl rfl rfl ?_
                          refine g_bipush (n := 341) X dX12_factor_339 (by decide +kernel) rfl ?_
                          refine g_icmp_ne (n := 344) (tgt := 358) X dX12_factor_341 (by decide) (by omega) (by omega) rfl (fun c243 => ?_) (fun c243 => by exfalso; omega)
                          refine g_iload (n := 360) X 0 dX12_factor_358 rfl rfl ?_
                          refine g_iload_n (n := 361) X 1 dX12_factor_360 rfl rfl rfl ?_
                          refine g_icmp_le (n := 364) (tgt := 368) X dX12_factor_361 (by decide) (by omega) (by omega) rfl (fun c244 => ?_) (fun c244 => by exfalso; omega)
                          refine g_iconst (n := 369) X dX12_factor_368 rfl ?_
                          exact hq _ _ _ _ dX12_factor_369 (by omega) ⟨by omega, IM233, CM233, (gFr.c (gFr.s (gFr.s (gFr.s (gFr.s gFr.rf e199 rc_190_13.2.2 rfl) e202 rc_190_12.2.2 rfl) e228 rc_190_13.2.2 rfl) e231 rc_190_12.2.2 rfl) FM233 rfl), by have q12 := hv235; have q14 := ((gFr.at FM233 rc_190_14.2.2 rfl).trans ((congrFun (congrFun e231 _) _).trans ((gset_ne (by omega)).trans ((congrFun (congrFun e228 _) _).trans ((gset_ne (by omega)).trans ((congrFun (congrFun e202 _) _).trans ((gset_ne (by omega)).trans ((congrFun (congrFun e199 _) _).trans ((gset_ne (by omega)).trans hv2))))))))); omega⟩
                      · refine g_iconst (n := 286) X dX12_factor_285 rfl ?_
                        refine g_goto (tgt := 290) X dX12_factor_286 (by decide) ?_
                        refine gp_12_13 (n := 293) X (by decide) (gsz hsz (by decide)) lay_190 kw_6_39 (by omega) dX12_factor_290 rfl ?_
                        refine G.nm (fun M245 e246 => ?_)
                        have IM245 : gI sz M245 := gI.set IM201 rc_190_13.1 (by omega) e246
                        have CM245 : gC sz M245 := gC.set CM201 rc_190_13.2.1 e246
                        refine g_aload_n (n := 294) X 2 dX12_factor_293 rfl rfl rfl ?_
                        refine g_dup (n := 295) X dX12_factor_294 rfl rfl ?_
                        refine gg_12_12 (n := 298) (z := v1 + 1) X (by decide) (gsz hsz (by decide)) lay_190 kw_6_38 dX12_factor_295 rfl ((congrFun (congrFun e246 _) _).trans ((gset_ne (by omega)).trans ((congrFun (congrFun e202 _) _).trans (gset_eq _ _ _ _)))) ?_
                        refine g_aload_n (n := 299) X 2 dX12_factor_298 rfl rfl rfl ?_
                        refine gg_12_13 (n := 302) (z := 1) X (by decide) (gsz hsz (by decide)) lay_190 kw_6_39 dX12_factor_299 rfl ((congrFun (congrFun e246 _) _).trans (gset_eq _ _ _ _)) ?_
                        refine g_if_eq (n := 305) (tgt := 309) X dX12_factor_302 (by decide) (by omega) rfl (fun c247 => by exfalso; omega) (fun c247 => ?_)
                        refine g_iconst (n := 306) X dX12_factor_305 rfl ?_
                        refine g_goto (tgt := 310) X dX12_factor_306 (by decide) ?_
                        refine g_iadd (n := 311) (z := v1 + 1) X dX12_factor_310 (by omega) rfl ?_
                        refine gp_12_12 (n := 314) X (by decide) (gsz hsz (by decide)) lay_190 kw_6_38 dX12_factor_311 rfl ?_
                        refine G.nm (fun M248 e249 => ?_)
                        have IM248 : gI sz M248 := gI.set IM245 rc_190_12.1 (by omega) e249
                        have CM248 : gC sz M248 := gC.set CM245 rc_190_12.2.1 e249
                        refine g_aload_n (n := 315) X 2 dX12_factor_314 rfl rfl rfl ?_
                        refine g_iconst (n := 316) X dX12_factor_315 rfl ?_
                        have tM248_12 : M248 190 12 = v1 + 1 := ((congrFun (congrFun e249 _) _).trans (gset_eq _ _ _ _))
                        refine g_callVi (n := 319) (As := [gJ 2]) (rest := []) (cs1 := 0) (ss1 := 0) X (s_X12_number 2 (by omega) hsz IM248 CM248 ) okX12_number kw_7_34 ⟨kw_7_36, kw_0_60⟩ ⟨rfl, rfl⟩ (by first | exact ⟨Nat.le_of_ble_eq_true rfl, Nat.le_of_ble_eq_true rfl⟩ | (refine ⟨?_, ?_⟩ <;> (simp only [RF, RE, RO, R_X12_here, R_X12_must, R_X12_number, R_X12_letter, R_X12_stands, R_X12_isAtOwn]; omega))) rfl (by decide) (gsz hsz (by decide)) lay_190 rfl rfl (Nat.le_of_ble_eq_true rfl) ⟨Nat.le_of_ble_eq_true rfl, Nat.le_of_ble_eq_true rfl⟩ rfl rfl dX12_factor_316 rfl (fun v250 M251 P252 => ?_)
                        obtain ⟨rv250, IM251, CM251, FM251, xM251⟩ := P252
                        obtain ⟨v253, hv253, rv253⟩ := gRd IM251 (by decide) (gsz hsz (by decide)) rc_190_12.1
                        refine g_istore_n (n := 320) (L' := [(3, gJ v250), (2, gJ v203), (1, gJ v7), (0, gA n0 190)]) X dX12_factor_319 rfl (by decide) rfl rfl ?_
                        refine g_aload_n (n := 321) X 3 dX12_factor_320 rfl rfl rfl ?_
                        obtain ⟨v254, hv254, rv254⟩ := gRd IM251 (by decide) (gsz hsz (by decide)) rc_190_13.1
                        refine gg_12_13 (n := 324) (z := v254) X (by decide) (gsz hsz (by decide)) lay_190 kw_6_39 dX12_factor_321 rfl hv254 ?_
                        refine g_if_eq (n := 327) (tgt := 331) X dX12_factor_324 (by decide) (by omega) rfl (fun c255 => ?_) (fun c255 => ?_)
                        · refine g_aload_n (n := 332) X 3 dX12_factor_331 rfl rfl rfl ?_
                          refine g_iload_n (n := 333) X 2 dX12_factor_332 rfl rfl rfl ?_
                          refine g_callVi (n := 336) (As := [gJ v7]) (rest := []) (cs1 := 0) (ss1 := 0) X (s_X12_stands v7 (by omega) hsz IM251 CM251 ) okX12_stands kw_7_62 ⟨kw_7_64, kw_0_67⟩ ⟨rfl, rfl⟩ (by first | exact ⟨Nat.le_of_ble_eq_true rfl, Nat.le_of_ble_eq_true rfl⟩ | (refine ⟨?_, ?_⟩ <;> (simp only [RF, RE, RO, R_X12_here, R_X12_must, R_X12_number, R_X12_letter, R_X12_stands, R_X12_isAtOwn]; omega))) rfl (by decide) (gsz hsz (by decide)) lay_190 rfl rfl (Nat.le_of_ble_eq_true rfl) ⟨Nat.le_of_ble_eq_true rfl, Nat.le_of_ble_eq_true rfl⟩ rfl rfl dX12_factor_333 rfl (fun v256 M257 P258 => ?_)
                          obtain ⟨rfl, rv256⟩ := P258
                          refine g_istore (n := 338) (L' := [(4, gJ v256), (3, gJ v250), (2, gJ v203), (1, gJ v7), (0, gA n0 190)]) X dX12_factor_336 (by decide) rfl rfl ?_
                          refine g_iload_n (n := 339) X 2 dX12_factor_338 rfl rfl rfl ?_
                          refine g_bipush (n := 341) X dX12_factor_339 (by decide +kernel) rfl ?_
                          refine g_icmp_ne (n := 344) (tgt := 358) X dX12_factor_341 (by decide) (by omega) (by omega) rfl (fun c259 => ?_) (fun c259 => ?_)
                          · refine g_iload (n := 360) X 0 dX12_factor_358 rfl rfl ?_
                            refine g_iload_n (n := 361) X 1 dX12_factor_360 rfl rfl rfl ?_
                            refine g_icmp_le (n := 364) (tgt := 368) X dX12_factor_361 (by decide) (by omega) (by omega) rfl (fun c260 => ?_) (fun c260 => ?_)
                            · refine g_iconst (n := 369) X dX12_factor_368 rfl ?_
                              exact hq _ _ _ _ dX12_factor_369 (by omega) ⟨by omega, IM251, CM251, (gFr.c (gFr.s (gFr.s (gFr.s (gFr.s gFr.rf e199 rc_190_13.2.2 rfl) e202 rc_190_12.2.2 rfl) e246 rc_190_13.2.2 rfl) e249 rc_190_12.2.2 rfl) FM251 rfl), by have q12 := hv253; have q14 := ((gFr.at FM251 rc_190_14.2.2 rfl).trans ((congrFun (congrFun e249 _) _).trans ((gset_ne (by omega)).trans ((congrFun (congrFun e246 _) _).trans ((gset_ne (by omega)).trans ((congrFun (congrFun e202 _) _).trans ((gset_ne (by omega)).trans ((congrFun (congrFun e199 _) _).trans ((gset_ne (by omega)).trans hv2))))))))); omega⟩
                            · refine g_iconst (n := 365) X dX12_factor_364 rfl ?_
                              refine g_goto (tgt := 369) X dX12_factor_365 (by decide) ?_
                              exact hq _ _ _ _ dX12_factor_369 (by omega) ⟨by omega, IM251, CM251, (gFr.c (gFr.s (gFr.s (gFr.s (gFr.s gFr.rf e199 rc_190_13.2.2 rfl) e202 rc_190_12.2.2 rfl) e246 rc_190_13.2.2 rfl) e249 rc_190_12.2.2 rfl) FM251 rfl), by have q12 := hv253; have q14 := ((gFr.at FM251 rc_190_14.2.2 rfl).trans ((congrFun (congrFun e249 _) _).trans ((gset_ne (by omega)).trans ((congrFun (congrFun e246 _) _).trans ((gset_ne (by omega)).trans ((congrFun (congrFun e202 _) _).trans ((gset_ne (by omega)).trans ((congrFun (congrFun e199 _) _).trans ((gset_ne (by omega)).trans hv2))))))))); omega⟩
                          · refine g_iload (n := 346) X 0 dX12_factor_344 rfl rfl ?_
                            refine g_iload_n (n := 347) X 1 dX12_factor_346 rfl rfl rfl ?_
                            refine g_icmp_ge (n := 350) (tgt := 354) X dX12_factor_347 (by decide) (by omega) (by omega) rfl (fun c261 => ?_) (fun c261 => ?_)
                            · refine g_iconst (n := 355) X dX12_factor_354 rfl ?_
                              refine g_goto (tgt := 369) X dX12_factor_355 (by decide) ?_
                              exact hq _ _ _ _ dX12_factor_369 (by omega) ⟨by omega, IM251, CM251, (gFr.c (gFr.s (gFr.s (gFr.s (gFr.s gFr.rf e199 rc_190_13.2.2 rfl) e202 rc_190_12.2.2 rfl) e246 rc_190_13.2.2 rfl) e249 rc_190_12.2.2 rfl) FM251 rfl), by have q12 := hv253; have q14 := ((gFr.at FM251 rc_190_14.2.2 rfl).trans ((congrFun (congrFun e249 _) _).trans ((gset_ne (by omega)).trans ((congrFun (congrFun e246 _) _).trans ((gset_ne (by omega)).trans ((congrFun (congrFun e202 _) _).trans ((gset_ne (by omega)).trans ((congrFun (congrFun e199 _) _).trans ((gset_ne (by omega)).trans hv2))))))))); omega⟩
                            · refine g_iconst (n := 351) X dX12_factor_350 rfl ?_
                              refine g_goto (tgt := 369) X dX12_factor_351 (by decide) ?_
                              exact hq _ _ _ _ dX12_factor_369 (by omega) ⟨by omega, IM251, CM251, (gFr.c (gFr.s (gFr.s (gFr.s (gFr.s gFr.rf e199 rc_190_13.2.2 rfl) e202 rc_190_12.2.2 rfl) e246 rc_190_13.2.2 rfl) e249 rc_190_12.2.2 rfl) FM251 rfl), by have q12 := hv253; have q14 := ((gFr.at FM251 rc_190_14.2.2 rfl).trans ((congrFun (congrFun e249 _) _).trans ((gset_ne (by omega)).trans ((congrFun (congrFun e246 _) _).trans ((gset_ne (by omega)).trans ((congrFun (congrFun e202 _) _).trans ((gset_ne (by omega)).trans ((congrFun (congrFun e199 _) _).trans ((gset_ne (by omega)).trans hv2))))))))); omega⟩
                        · refine g_iconst (n := 328) X dX12_factor_327 rfl ?_
                          refine g_goto (tgt := 336) X dX12_factor_328 (by decide) ?_
                          refine g_istore (n := 338) (L' := [(4, gJ 0), (3, gJ v250), (2, gJ v203), (1, gJ v7), (0, gA n0 190)]) X dX12_factor_336 (by decide) rfl rfl ?_
                          refine g_iload_n (n := 339) X 2 dX12_factor_338 rfl rfl rfl ?_
                          refine g_bipush (n := 341) X dX12_factor_339 (by decide +kernel) rfl ?_
                          refine g_icmp_ne (n := 344) (tgt := 358) X dX12_factor_341 (by decide) (by omega) (by omega) rfl (fun c262 => ?_) (fun c262 => ?_)
                          · refine g_iload (n := 360) X 0 dX12_factor_358 rfl rfl ?_
                            refine g_iload_n (n := 361) X 1 dX12_factor_360 rfl rfl rfl ?_
                            refine g_icmp_le (n := 364) (tgt := 368) X dX12_factor_361 (by decide) (by omega) (by omega) rfl (fun c263 => ?_) (fun c263 => by exfalso; omega)
                            refine g_iconst (n := 369) X dX12_factor_368 rfl ?_
                            exact hq _ _ _ _ dX12_factor_369 (by omega) ⟨by omega, IM251, CM251, (gFr.c (gFr.s (gFr.s (gFr.s (gFr.s gFr.rf e199 rc_190_13.2.2 rfl) e202 rc_190_12.2.2 rfl) e246 rc_190_13.2.2 rfl) e249 rc_190_12.2.2 rfl) FM251 rfl), by have q12 := hv253; have q14 := ((gFr.at FM251 rc_190_14.2.2 rfl).trans ((congrFun (congrFun e249 _) _).trans ((gset_ne (by omega)).trans ((congrFun (congrFun e246 _) _).trans ((gset_ne (by omega)).trans ((congrFun (congrFun e202 _) _).trans ((gset_ne (by omega)).trans ((congrFun (congrFun e199 _) _).trans ((gset_ne (by omega)).trans hv2))))))))); omega⟩
                          · refine g_iload (n := 346) X 0 dX12_factor_344 rfl rfl ?_
                            refine g_iload_n (n := 347) X 1 dX12_factor_346 rfl rfl rfl ?_
                            refine g_icmp_ge (n := 350) (tgt := 354) X dX12_factor_347 (by decide) (by omega) (by omega) rfl (fun c264 => ?_) (fun c264 => ?_)
                            · refine g_iconst (n := 355) X dX12_factor_354 rfl ?_
                              refine g_goto (tgt := 369) X dX12_factor_355 (by decide) ?_
                              exact hq _ _ _ _ dX12_factor_369 (by omega) ⟨by omega, IM251, CM251, (gFr.c (gFr.s (gFr.s (gFr.s (gFr.s gFr.rf e199 rc_190_13.2.2 rfl) e202 rc_190_12.2.2 rfl) e246 rc_190_13.2.2 rfl) e249 rc_190_12.2.2 rfl) FM251 rfl), by have q12 := hv253; have q14 := ((gFr.at FM251 rc_190_14.2.2 rfl).trans ((congrFun (congrFun e249 _) _).trans ((gset_ne (by omega)).trans ((congrFun (congrFun e246 _) _).trans ((gset_ne (by omega)).trans ((congrFun (congrFun e202 _) _).trans ((gset_ne (by omega)).trans ((congrFun (congrFun e199 _) _).trans ((gset_ne (by omega)).trans hv2))))))))); omega⟩
                            · refine g_iconst (n := 351) X dX12_factor_350 rfl ?_
                              refine g_goto (tgt := 369) X dX12_factor_351 (by decide) ?_
                              exact hq _ _ _ _ dX12_factor_369 (by omega) ⟨by omega, IM251, CM251, (gFr.c (gFr.s (gFr.s (gFr.s (gFr.s gFr.rf e199 rc_190_13.2.2 rfl) e202 rc_190_12.2.2 rfl) e246 rc_190_13.2.2 rfl) e249 rc_190_12.2.2 rfl) FM251 rfl), by have q12 := hv253; have q14 := ((gFr.at FM251 rc_190_14.2.2 rfl).trans ((congrFun (congrFun e249 _) _).trans ((gset_ne (by omega)).trans ((congrFun (congrFun e246 _) _).trans ((gset_ne (by omega)).trans ((congrFun (congrFun e202 _) _).trans ((gset_ne (by omega)).trans ((congrFun (congrFun e199 _) _).trans ((gset_ne (by omega)).trans hv2))))))))); omega⟩
                  · refine g_iload_n (n := 226) X 0 dX12_factor_225 rfl rfl rfl ?_
                    refine g_bipush (n := 228) X dX12_factor_226 (by decide +kernel) rfl ?_
                    refine g_icmp_eq (n := 231) (tgt := 235) X dX12_factor_228 (by decide) (by omega) (by omega) rfl (fun c265 => ?_) (fun c265 => ?_)
                    · refine g_iconst (n := 236) X dX12_factor_235 rfl ?_
                      refine gp_12_13 (n := 239) X (by decide) (gsz hsz (by decide)) lay_190 kw_6_39 (by omega) dX12_factor_236 rfl ?_
                      refine G.nm (fun M266 e267 => ?_)
                      have IM266 : gI sz M266 := gI.set I rc_190_13.1 (by omega) e267
                      have CM266 : gC sz M266 := gC.set C rc_190_13.2.1 e267
                      refine g_aload_n (n := 240) X 1 dX12_factor_239 rfl rfl rfl ?_
                      refine g_dup (n := 241) X dX12_factor_240 rfl rfl ?_
                      refine gg_12_12 (n := 244) (z := v1) X (by decide) (gsz hsz (by decide)) lay_190 kw_6_38 dX12_factor_241 rfl ((congrFun (congrFun e267 _) _).trans ((gset_ne (by omega)).trans hv1)) ?_
                      refine g_aload_n (n := 245) X 1 dX12_factor_244 rfl rfl rfl ?_
                      refine gg_12_13 (n := 248) (z := 0) X (by decide) (gsz hsz (by decide)) lay_190 kw_6_39 dX12_factor_245 rfl ((congrFun (congrFun e267 _) _).trans (gset_eq _ _ _ _)) ?_
                      refine g_if_eq (n := 251) (tgt := 255) X dX12_factor_248 (by decide) (by omega) rfl (fun c268 => ?_) (fun c268 => by exfalso; omega)
                      refine g_iconst (n := 256) X dX12_factor_255 rfl ?_
                      refine g_iadd (n := 257) (z := v1 + 1) X dX12_factor_256 (by omega) rfl ?_
                      refine gp_12_12 (n := 260) X (by decide) (gsz hsz (by decide)) lay_190 kw_6_38 dX12_factor_257 rfl ?_
                      refine G.nm (fun M269 e270 => ?_)
                      have IM269 : gI sz M269 := gI.set IM266 rc_190_12.1 (by omega) e270
                      have CM269 : gC sz M269 := gC.set CM266 rc_190_12.2.1 e270
                      refine g_aload_n (n := 261) X 1 dX12_factor_260 rfl rfl rfl ?_
                      have tM269_12 : M269 190 12 = v1 + 1 := ((congrFun (congrFun e270 _) _).trans (gset_eq _ _ _ _))
                      refine g_callVi (n := 264) (As := []) (rest := []) (cs1 := 0) (ss1 := 0) X (s_X12_here  hsz IM269 CM269 ) okX12_here kw_7_26 ⟨kw_7_28, kw_0_58⟩ ⟨rfl, rfl⟩ (by first | exact ⟨Nat.le_of_ble_eq_true rfl, Nat.le_of_ble_eq_true rfl⟩ | (refine ⟨?_, ?_⟩ <;> (simp only [RF, RE, RO, R_X12_here, R_X12_must, R_X12_number, R_X12_letter, R_X12_stands, R_X12_isAtOwn]; omega))) rfl (by decide) (gsz hsz (by decide)) lay_190 rfl rfl (Nat.le_of_ble_eq_true rfl) ⟨Nat.le_of_ble_eq_true rfl, Nat.le_of_ble_eq_true rfl⟩ rfl rfl dX12_factor_261 rfl (fun v271 M272 P273 => ?_)
                      obtain ⟨rfl, rv271, xv271⟩ := P273
                      refine g_istore_n (n := 265) (L' := [(2, gJ v271), (1, gJ v7), (0, gA n0 190)]) X dX12_factor_264 rfl (by decide) rfl rfl ?_
                      refine g_aload_n (n := 266) X 2 dX12_factor_265 rfl rfl rfl ?_
                      refine g_aload_n (n := 267) X 2 dX12_factor_266 rfl rfl rfl ?_
                      refine gg_12_13 (n := 270) (z := 0) X (by decide) (gsz hsz (by decide)) lay_190 kw_6_39 dX12_factor_267 rfl ((congrFun (congrFun e270 _) _).trans ((gset_ne (by omega)).trans ((congrFun (congrFun e267 _) _).trans (gset_eq _ _ _ _)))) ?_
                      refine g_if_ne (n := 273) (tgt := 285) X dX12_factor_270 (by decide) (by omega) rfl (fun c274 => by exfalso; omega) (fun c274 => ?_)
                      refine g_iload_n (n := 274) X 0 dX12_factor_273 rfl rfl rfl ?_
                      refine g_bipush (n := 276) X dX12_factor_274 (by decide +kernel) rfl ?_
                      refine g_icmp_eq (n := 279) (tgt := 289) X dX12_factor_276 (by decide) (by omega) (by omega) rfl (fun c275 => ?_) (fun c275 => ?_)
                      · refine g_iconst (n := 290) X dX12_factor_289 rfl ?_
                        refine gp_12_13 (n := 293) X (by decide) (gsz hsz (by decide)) lay_190 kw_6_39 (by omega) dX12_factor_290 rfl ?_
                        refine G.nm (fun M276 e277 => ?_)
                        have IM276 : gI sz M276 := gI.set IM269 rc_190_13.1 (by omega) e277
                        have CM276 : gC sz M276 := gC.set CM269 rc_190_13.2.1 e277
                        refine g_aload_n (n := 294) X 2 dX12_factor_293 rfl rfl rfl ?_
                        refine g_dup (n := 295) X dX12_factor_294 rfl rfl ?_
                        refine gg_12_12 (n := 298) (z := v1 + 1) X (by decide) (gsz hsz (by decide)) lay_190 kw_6_38 dX12_factor_295 rfl ((congrFun (congrFun e277 _) _).trans ((gset_ne (by omega)).trans ((congrFun (congrFun e270 _) _).trans (gset_eq _ _ _ _)))) ?_
                        refine g_aload_n (n := 299) X 2 dX12_factor_298 rfl rfl rfl ?_
                        refine gg_12_13 (n := 302) (z := 0) X (by decide) (gsz hsz (by decide)) lay_190 kw_6_39 dX12_factor_299 rfl ((congrFun (congrFun e277 _) _).trans (gset_eq _ _ _ _)) ?_
                        refine g_if_eq (n := 305) (tgt := 309) X dX12_factor_302 (by decide) (by omega) rfl (fun c278 => ?_) (fun c278 => by exfalso; omega)
                        refine g_iconst (n := 310) X dX12_factor_309 rfl ?_
                        refine g_iadd (n := 311) (z := v1 + 2) X dX12_factor_310 (by omega) rfl ?_
                        refine gp_12_12 (n := 314) X (by decide) (gsz hsz (by decide)) lay_190 kw_6_38 dX12_factor_311 rfl ?_
                        refine G.nm (fun M279 e280 => ?_)
                        have IM279 : gI sz M279 := gI.set IM276 rc_190_12.1 (by omega) e280
                        have CM279 : gC sz M279 := gC.set CM276 rc_190_12.2.1 e280
                        refine g_aload_n (n := 315) X 2 dX12_factor_314 rfl rfl rfl ?_
                        refine g_iconst (n := 316) X dX12_factor_315 rfl ?_
                        have tM279_12 : M279 190 12 = v1 + 2 := ((congrFun (congrFun e280 _) _).trans (gset_eq _ _ _ _))
                        refine g_callVi (n := 319) (As := [gJ 2]) (rest := []) (cs1 := 0) (ss1 := 0) X (s_X12_number 2 (by omega) hsz IM279 CM279 ) okX12_number kw_7_34 ⟨kw_7_36, kw_0_60⟩ ⟨rfl, rfl⟩ (by first | exact ⟨Nat.le_of_ble_eq_true rfl, Nat.le_of_ble_eq_true rfl⟩ | (refine ⟨?_, ?_⟩ <;> (simp only [RF, RE, RO, R_X12_here, R_X12_must, R_X12_number, R_X12_letter, R_X12_stands, R_X12_isAtOwn]; omega))) rfl (by decide) (gsz hsz (by decide)) lay_190 rfl rfl (Nat.le_of_ble_eq_true rfl) ⟨Nat.le_of_ble_eq_true rfl, Nat.le_of_ble_eq_true rfl⟩ rfl rfl dX12_factor_316 rfl (fun v281 M282 P283 => ?_)
                        obtain ⟨rv281, IM282, CM282, FM282, xM282⟩ := P283
                        obtain ⟨v284, hv284, rv284⟩ := gRd IM282 (by decide) (gsz hsz (by decide)) rc_190_12.1
                        refine g_istore_n (n := 320) (L' := [(3, gJ v281), (2, gJ v271), (1, gJ v7), (0, gA n0 190)]) X dX12_factor_319 rfl (by decide) rfl rfl ?_
                        refine g_aload_n (n := 321) X 3 dX12_factor_320 rfl rfl rfl ?_
                        obtain ⟨v285, hv285, rv285⟩ := gRd IM282 (by decide) (gsz hsz (by decide)) rc_190_13.1
                        refine gg_12_13 (n := 324) (z := v285) X (by decide) (gsz hsz (by decide)) lay_190 kw_6_39 dX12_factor_321 rfl hv285 ?_
                        refine g_if_eq (n := 327) (tgt := 331) X dX12_factor_324 (by decide) (by omega) rfl (fun c286 => ?_) (fun c286 => ?_)
                        · refine g_aload_n (n := 332) X 3 dX12_factor_331 rfl rfl rfl ?_
                          refine g_iload_n (n := 333) X 2 dX12_factor_332 rfl rfl rfl ?_
                          refine g_callVi (n := 336) (As := [gJ v7]) (rest := []) (cs1 := 0) (ss1 := 0) X (s_X12_stands v7 (by omega) hsz IM282 CM282 ) okX12_stands kw_7_62 ⟨kw_7_64, kw_0_67⟩ ⟨rfl, rfl⟩ (by first | exact ⟨Nat.le_of_ble_eq_true rfl, Nat.le_of_ble_eq_true rfl⟩ | (refine ⟨?_, ?_⟩ <;> (simp only [RF, RE, RO, R_X12_here, R_X12_must, R_X12_number, R_X12_letter, R_X12_stands, R_X12_isAtOwn]; omega))) rfl (by decide) (gsz hsz (by decide)) lay_190 rfl rfl (Nat.le_of_ble_eq_true rfl) ⟨Nat.le_of_ble_eq_true rfl, Nat.le_of_ble_eq_true rfl⟩ rfl rfl dX12_factor_333 rfl (fun v287 M288 P289 => ?_)
                          obtain ⟨rfl, rv287⟩ := P289
                          refine g_istore (n := 338) (L' := [(4, gJ v287), (3, gJ v281), (2, gJ v271), (1, gJ v7), (0, gA n0 190)]) X dX12_factor_336 (by decide) rfl rfl ?_
                          refine g_iload_n (n := 339) X 2 dX12_factor_338 rfl rfl rfl ?_
                          refine g_bipush (n := 341) X dX12_factor_339 (by decide +kernel) rfl ?_
                          refine g_icmp_ne (n := 344) (tgt := 358) X dX12_factor_341 (by decide) (by omega) (by omega) rfl (fun c290 => by exfalso; omega) (fun c290 => ?_)
                          refine g_iload (n := 346) X 0 dX12_factor_344 rfl rfl ?_
                          refine g_iload_n (n := 347) X 1 dX12_factor_346 rfl rfl rfl ?_
                          refine g_icmp_ge (n := 350) (tgt := 354) X dX12_factor_347 (by decide) (by omega) (by omega) rfl (fun c291 => ?_) (fun c291 => ?_)
                          · refine g_iconst (n := 355) X dX12_factor_354 rfl ?_
                            refine g_goto (tgt := 369) X dX12_factor_355 (by decide) ?_
                            exact hq _ _ _ _ dX12_factor_369 (by omega) ⟨by omega, IM282, CM282, (gFr.c (gFr.s (gFr.s (gFr.s (gFr.s gFr.rf e267 rc_190_13.2.2 rfl) e270 rc_190_12.2.2 rfl) e277 rc_190_13.2.2 rfl) e280 rc_190_12.2.2 rfl) FM282 rfl), by have q12 := hv284; have q14 := ((gFr.at FM282 rc_190_14.2.2 rfl).trans ((congrFun (congrFun e280 _) _).trans ((gset_ne (by omega)).trans ((congrFun (congrFun e277 _) _).trans ((gset_ne (by omega)).trans ((congrFun (congrFun e270 _) _).trans ((gset_ne (by omega)).trans ((congrFun (congrFun e267 _) _).trans ((gset_ne (by omega)).trans hv2))))))))); omega⟩
                          · refine g_iconst (n := 351) X dX12_factor_350 rfl ?_
                            refine g_goto (tgt := 369) X dX12_factor_351 (by decide) ?_
                            exact hq _ _ _ _ dX12_factor_369 (by omega) ⟨by omega, IM282, CM282, (gFr.c (gFr.s (gFr.s (gFr.s (gFr.s gFr.rf e267 rc_190_13.2.2 rfl) e270 rc_190_12.2.2 rfl) e277 rc_190_13.2.2 rfl) e280 rc_190_12.2.2 rfl) FM282 rfl), by have q12 := hv284; have q14 := ((gFr.at FM282 rc_190_14.2.2 rfl).trans ((congrFun (congrFun e280 _) _).trans ((gset_ne (by omega)).trans ((congrFun (congrFun e277 _) _).trans ((gset_ne (by omega)).trans ((congrFun (congrFun e270 _) _).trans ((gset_ne (by omega)).trans ((congrFun (congrFun e267 _) _).trans ((gset_ne (by omega)).trans hv2))))))))); omega⟩
                        · refine g_iconst (n := 328) X dX12_factor_327 rfl ?_
                          refine g_goto (tgt := 336) X dX12_factor_328 (by decide) ?_
                          refine g_istore (n := 338) (L' := [(4, gJ 0), (3, gJ v281), (2, gJ v271), (1, gJ v7), (0, gA n0 190)]) X dX12_factor_336 (by decide) rfl rfl ?_
                          refine g_iload_n (n := 339) X 2 dX12_factor_338 rfl rfl rfl ?_
                          refine g_bipush (n := 341) X dX12_factor_339 (by decide +kernel) rfl ?_
                          refine g_icmp_ne (n := 344) (tgt := 358) X dX12_factor_341 (by decide) (by omega) (by omega) rfl (fun c292 => by exfalso; omega) (fun c292 => ?_)
                          refine g_iload (n := 346) X 0 dX12_factor_344 rfl rfl ?_
                          refine g_iload_n (n := 347) X 1 dX12_factor_346 rfl rfl rfl ?_
                          refine g_icmp_ge (n := 350) (tgt := 354) X dX12_factor_347 (by decide) (by omega) (by omega) rfl (fun c293 => ?_) (fun c293 => ?_)
                          · refine g_iconst (n := 355) X dX12_factor_354 rfl ?_
                            refine g_goto (tgt := 369) X dX12_factor_355 (by decide) ?_
                            exact hq _ _ _ _ dX12_factor_369 (by omega) ⟨by omega, IM282, CM282, (gFr.c (gFr.s (gFr.s (gFr.s (gFr.s gFr.rf e267 rc_190_13.2.2 rfl) e270 rc_190_12.2.2 rfl) e277 rc_190_13.2.2 rfl) e280 rc_190_12.2.2 rfl) FM282 rfl), by have q12 := hv284; have q14 := ((gFr.at FM282 rc_190_14.2.2 rfl).trans ((congrFun (congrFun e280 _) _).trans ((gset_ne (by omega)).trans ((congrFun (congrFun e277 _) _).trans ((gset_ne (by omega)).trans ((congrFun (congrFun e270 _) _).trans ((gset_ne (by omega)).trans ((congrFun (congrFun e267 _) _).trans ((gset_ne (by omega)).trans hv2))))))))); omega⟩
                          · refine g_iconst (n := 351) X dX12_factor_350 rfl ?_
                            refine g_goto (tgt := 369) X dX12_factor_351 (by decide) ?_
                            exact hq _ _ _ _ dX12_factor_369 (by omega) ⟨by omega, IM282, CM282, (gFr.c (gFr.s (gFr.s (gFr.s (gFr.s gFr.rf e267 rc_190_13.2.2 rfl) e270 rc_190_12.2.2 rfl) e277 rc_190_13.2.2 rfl) e280 rc_190_12.2.2 rfl) FM282 rfl), by have q12 := hv284; have q14 := ((gFr.at FM282 rc_190_14.2.2 rfl).trans ((congrFun (congrFun e280 _) _).trans ((gset_ne (by omega)).trans ((congrFun (congrFun e277 _) _).trans ((gset_ne (by omega)).trans ((congrFun (congrFun e270 _) _).trans ((gset_ne (by omega)).trans ((congrFun (congrFun e267 _) _).trans ((gset_ne (by omega)).trans hv2))))))))); omega⟩
                      · refine g_iload_n (n := 280) X 0 dX12_factor_279 rfl rfl rfl ?_
                        refine g_bipush (n := 282) X dX12_factor_280 (by decide +kernel) rfl ?_
                        refine g_icmp_eq (n := 285) (tgt := 289) X dX12_factor_282 (by decide) (by omega) (by omega) rfl (fun c294 => ?_) (fun c294 => ?_)
                        · refine g_iconst (n := 290) X dX12_factor_289 rfl ?_
                          refine gp_12_13 (n := 293) X (by decide) (gsz hsz (by decide)) lay_190 kw_6_39 (by omega) dX12_factor_290 rfl ?_
                          refine G.nm (fun M295 e296 => ?_)
                          have IM295 : gI sz M295 := gI.set IM269 rc_190_13.1 (by omega) e296
                          have CM295 : gC sz M295 := gC.set CM269 rc_190_13.2.1 e296
                          refine g_aload_n (n := 294) X 2 dX12_factor_293 rfl rfl rfl ?_
                          refine g_dup (n := 295) X dX12_factor_294 rfl rfl ?_
                          refine gg_12_12 (n := 298) (z := v1 + 1) X (by decide) (gsz hsz (by decide)) lay_190 kw_6_38 dX12_factor_295 rfl ((congrFun (congrFun e296 _) _).trans ((gset_ne (by omega)).trans ((congrFun (congrFun e270 _) _).trans (gset_eq _ _ _ _)))) ?_
                          refine g_aload_n (n := 299) X 2 dX12_factor_298 rfl rfl rfl ?_
                          refine gg_12_13 (n := 302) (z := 0) X (by decide) (gsz hsz (by decide)) lay_190 kw_6_39 dX12_factor_299 rfl ((congrFun (congrFun e296 _) _).trans (gset_eq _ _ _ _)) ?_
                          refine g_if_eq (n := 305) (tgt := 309) X dX12_factor_302 (by decide) (by omega) rfl (fun c297 => ?_) (fun c297 => by exfalso; omega)
                          refine g_iconst (n := 310) X dX12_factor_309 rfl ?_
                          refine g_iadd (n := 311) (z := v1 + 2) X dX12_factor_310 (by omega) rfl ?_
                          refine gp_12_12 (n := 314) X (by decide) (gsz hsz (by decide)) lay_190 kw_6_38 dX12_factor_311 rfl ?_
                          refine G.nm (fun M298 e299 => ?_)
                          have IM298 : gI sz M298 := gI.set IM295 rc_190_12.1 (by omega) e299
                          have CM298 : gC sz M298 := gC.set CM295 rc_190_12.2.1 e299
                          refine g_aload_n (n := 315) X 2 dX12_factor_314 rfl rfl rfl ?_
                          refine g_iconst (n := 316) X dX12_factor_315 rfl ?_
                          have tM298_12 : M298 190 12 = v1 + 2 := ((congrFun (congrFun e299 _) _).trans (gset_eq _ _ _ _))
                          refine g_callVi (n := 319) (As := [gJ 2]) (rest := []) (cs1 := 0) (ss1 := 0) X (s_X12_number 2 (by omega) hsz IM298 CM298 ) okX12_number kw_7_34 ⟨kw_7_36, kw_0_60⟩ ⟨rfl, rfl⟩ (by first | exact ⟨Nat.le_of_ble_eq_true rfl, Nat.le_of_ble_eq_true rfl⟩ | (refine ⟨?_, ?_⟩ <;> (simp only [RF, RE, RO, R_X12_here, R_X12_must, R_X12_number, R_X12_letter, R_X12_stands, R_X12_isAtOwn]; omega))) rfl (by decide) (gsz hsz (by decide)) lay_190 rfl rfl (Nat.le_of_ble_eq_true rfl) ⟨Nat.le_of_ble_eq_true rfl, Nat.le_of_ble_eq_true rfl⟩ rfl rfl dX12_factor_316 rfl (fun v300 M301 P302 => ?_)
                          obtain ⟨rv300, IM301, CM301, FM301, xM301⟩ := P302
                          obtain ⟨v303, hv303, rv303⟩ := gRd IM301 (by decide) (gsz hsz (by decide)) rc_190_12.1
                          refine g_istore_n (n := 320) (L' := [(3, gJ v300), (2, gJ v271), (1, gJ v7), (0, gA n0 190)]) X dX12_factor_319 rfl (by decide) rfl rfl ?_
                          refine g_aload_n (n := 321) X 3 dX12_factor_320 rfl rfl rfl ?_
                          obtain ⟨v304, hv304, rv304⟩ := gRd IM301 (by decide) (gsz hsz (by decide)) rc_190_13.1
                          refine gg_12_13 (n := 324) (z := v304) X (by decide) (gsz hsz (by decide)) lay_190 kw_6_39 dX12_factor_321 rfl hv304 ?_
                          refine g_if_eq (n := 327) (tgt := 331) X dX12_factor_324 (by decide) (by omega) rfl (fun c305 => ?_) (fun c305 => ?_)
                          · refine g_aload_n (n := 332) X 3 dX12_factor_331 rfl rfl rfl ?_
                            refine g_iload_n (n := 333) X 2 dX12_factor_332 rfl rfl rfl ?_
                            refine g_callVi (n := 336) (As := [gJ v7]) (rest := []) (cs1 := 0) (ss1 := 0) X (s_X12_stands v7 (by omega) hsz IM301 CM301 ) okX12_stands kw_7_62 ⟨kw_7_64, kw_0_67⟩ ⟨rfl, rfl⟩ (by first | exact ⟨Nat.le_of_ble_eq_true rfl, Nat.le_of_ble_eq_true rfl⟩ | (refine ⟨?_, ?_⟩ <;> (simp only [RF, RE, RO, R_X12_here, R_X12_must, R_X12_number, R_X12_letter, R_X12_stands, R_X12_isAtOwn]; omega))) rfl (by decide) (gsz hsz (by decide)) lay_190 rfl rfl (Nat.le_of_ble_eq_true rfl) ⟨Nat.le_of_ble_eq_true rfl, Nat.le_of_ble_eq_true rfl⟩ rfl rfl dX12_factor_333 rfl (fun v306 M307 P308 => ?_)
                            obtain ⟨rfl, rv306⟩ := P308
                            refine g_istore (n := 338) (L' := [(4, gJ v306), (3, gJ v300), (2, gJ v271), (1, gJ v7), (0, gA n0 190)]) X dX12_factor_336 (by decide) rfl rfl ?_
                            refine g_iload_n (n := 339) X 2 dX12_factor_338 rfl rfl rfl ?_
                            refine g_bipush (n := 341) X dX12_factor_339 (by decide +kernel) rfl ?_
                            refine g_icmp_ne (n := 344) (tgt := 358) X dX12_factor_341 (by decide) (by omega) (by omega) rfl (fun c309 => ?_) (fun c309 => by exfalso; omega)
                            refine g_iload (n := 360) X 0 dX12_factor_358 rfl rfl ?_
                            refine g_iload_n (n := 361) X 1 dX12_factor_360 rfl rfl rfl ?_
                            refine g_icmp_le (n := 364) (tgt := 368) X dX12_factor_361 (by decide) (by omega) (by omega) rfl (fun c310 => ?_) (fun c310 => ?_)
                            · refine g_iconst (n := 369) X dX12_factor_368 rfl ?_
                              exact hq _ _ _ _ dX12_factor_369 (by omega) ⟨by omega, IM301, CM301, (gFr.c (gFr.s (gFr.s (gFr.s (gFr.s gFr.rf e267 rc_190_13.2.2 rfl) e270 rc_190_12.2.2 rfl) e296 rc_190_13.2.2 rfl) e299 rc_190_12.2.2 rfl) FM301 rfl), by have q12 := hv303; have q14 := ((gFr.at FM301 rc_190_14.2.2 rfl).trans ((congrFun (congrFun e299 _) _).trans ((gset_ne (by omega)).trans ((congrFun (congrFun e296 _) _).trans ((gset_ne (by omega)).trans ((congrFun (congrFun e270 _) _).trans ((gset_ne (by omega)).trans ((congrFun (congrFun e267 _) _).trans ((gset_ne (by omega)).trans hv2))))))))); omega⟩
                            · refine g_iconst (n := 365) X dX12_factor_364 rfl ?_
                              refine g_goto (tgt := 369) X dX12_factor_365 (by decide) ?_
                              exact hq _ _ _ _ dX12_factor_369 (by omega) ⟨by omega, IM301, CM301, (gFr.c (gFr.s (gFr.s (gFr.s (gFr.s gFr.rf e267 rc_190_13.2.2 rfl) e270 rc_190_12.2.2 rfl) e296 rc_190_13.2.2 rfl) e299 rc_190_12.2.2 rfl) FM301 rfl), by have q12 := hv303; have q14 := ((gFr.at FM301 rc_190_14.2.2 rfl).trans ((congrFun (congrFun e299 _) _).trans ((gset_ne (by omega)).trans ((congrFun (congrFun e296 _) _).trans ((gset_ne (by omega)).trans ((congrFun (congrFun e270 _) _).trans ((gset_ne (by omega)).trans ((congrFun (congrFun e267 _) _).trans ((gset_ne (by omega)).trans hv2))))))))); omega⟩
                          · refine g_iconst (n := 328) X dX12_factor_327 rfl ?_
                            refine g_goto (tgt := 336) X dX12_factor_328 (by decide) ?_
                            refine g_istore (n := 338) (L' := [(4, gJ 0), (3, gJ v300), (2, gJ v271), (1, gJ v7), (0, gA n0 190)]) X dX12_factor_336 (by decide) rfl rfl ?_
                            refine g_iload_n (n := 339) X 2 dX12_factor_338 rfl rfl rfl ?_
                            refine g_bipush (n := 341) X dX12_factor_339 (by decide +kernel) rfl ?_
                            refine g_icmp_ne (n := 344) (tgt := 358) X dX12_factor_341 (by decide) (by omega) (by omega) rfl (fun c311 => ?_) (fun c311 => by exfalso; omega)
                            refine g_iload (n := 360) X 0 dX12_factor_358 rfl rfl ?_
                            refine g_iload_n (n := 361) X 1 dX12_factor_360 rfl rfl rfl ?_
                            refine g_icmp_le (n := 364) (tgt := 368) X dX12_factor_361 (by decide) (by omega) (by omega) rfl (fun c312 => ?_) (fun c312 => by exfalso; omega)
                            refine g_iconst (n := 369) X dX12_factor_368 rfl ?_
                            exact hq _ _ _ _ dX12_factor_369 (by omega) ⟨by omega, IM301, CM301, (gFr.c (gFr.s (gFr.s (gFr.s (gFr.s gFr.rf e267 rc_190_13.2.2 rfl) e270 rc_190_12.2.2 rfl) e296 rc_190_13.2.2 rfl) e299 rc_190_12.2.2 rfl) FM301 rfl), by have q12 := hv303; have q14 := ((gFr.at FM301 rc_190_14.2.2 rfl).trans ((congrFun (congrFun e299 _) _).trans ((gset_ne (by omega)).trans ((congrFun (congrFun e296 _) _).trans ((gset_ne (by omega)).trans ((congrFun (congrFun e270 _) _).trans ((gset_ne (by omega)).trans ((congrFun (congrFun e267 _) _).trans ((gset_ne (by omega)).trans hv2))))))))); omega⟩
                        · refine g_iconst (n := 286) X dX12_factor_285 rfl ?_
                          refine g_goto (tgt := 290) X dX12_factor_286 (by decide) ?_
                          refine gp_12_13 (n := 293) X (by decide) (gsz hsz (by decide)) lay_190 kw_6_39 (by omega) dX12_factor_290 rfl ?_
                          refine G.nm (fun M313 e314 => ?_)
                          have IM313 : gI sz M313 := gI.set IM269 rc_190_13.1 (by omega) e314
                          have CM313 : gC sz M313 := gC.set CM269 rc_190_13.2.1 e314
                          refine g_aload_n (n := 294) X 2 dX12_factor_293 rfl rfl rfl ?_
                          refine g_dup (n := 295) X dX12_factor_294 rfl rfl ?_
                          refine gg_12_12 (n := 298) (z := v1 + 1) X (by decide) (gsz hsz (by decide)) lay_190 kw_6_38 dX12_factor_295 rfl ((congrFun (congrFun e314 _) _).trans ((gset_ne (by omega)).trans ((congrFun (congrFun e270 _) _).trans (gset_eq _ _ _ _)))) ?_
                          refine g_aload_n (n := 299) X 2 dX12_factor_298 rfl rfl rfl ?_
                          refine gg_12_13 (n := 302) (z := 1) X (by decide) (gsz hsz (by decide)) lay_190 kw_6_39 dX12_factor_299 rfl ((congrFun (congrFun e314 _) _).trans (gset_eq _ _ _ _)) ?_
                          refine g_if_eq (n := 305) (tgt := 309) X dX12_factor_302 (by decide) (by omega) rfl (fun c315 => by exfalso; omega) (fun c315 => ?_)
                          refine g_iconst (n := 306) X dX12_factor_305 rfl ?_
                          refine g_goto (tgt := 310) X dX12_factor_306 (by decide) ?_
                          refine g_iadd (n := 311) (z := v1 + 1) X dX12_factor_310 (by omega) rfl ?_
                          refine gp_12_12 (n := 314) X (by decide) (gsz hsz (by decide)) lay_190 kw_6_38 dX12_factor_311 rfl ?_
                          refine G.nm (fun M316 e317 => ?_)
                          have IM316 : gI sz M316 := gI.set IM313 rc_190_12.1 (by omega) e317
                          have CM316 : gC sz M316 := gC.set CM313 rc_190_12.2.1 e317
                          refine g_aload_n (n := 315) X 2 dX12_factor_314 rfl rfl rfl ?_
                          refine g_iconst (n := 316) X dX12_factor_315 rfl ?_
                          have tM316_12 : M316 190 12 = v1 + 1 := ((congrFun (congrFun e317 _) _).trans (gset_eq _ _ _ _))
                          refine g_callVi (n := 319) (As := [gJ 2]) (rest := []) (cs1 := 0) (ss1 := 0) X (s_X12_number 2 (by omega) hsz IM316 CM316 ) okX12_number kw_7_34 ⟨kw_7_36, kw_0_60⟩ ⟨rfl, rfl⟩ (by first | exact ⟨Nat.le_of_ble_eq_true rfl, Nat.le_of_ble_eq_true rfl⟩ | (refine ⟨?_, ?_⟩ <;> (simp only [RF, RE, RO, R_X12_here, R_X12_must, R_X12_number, R_X12_letter, R_X12_stands, R_X12_isAtOwn]; omega))) rfl (by decide) (gsz hsz (by decide)) lay_190 rfl rfl (Nat.le_of_ble_eq_true rfl) ⟨Nat.le_of_ble_eq_true rfl, Nat.le_of_ble_eq_true rfl⟩ rfl rfl dX12_factor_316 rfl (fun v318 M319 P320 => ?_)
                          obtain ⟨rv318, IM319, CM319, FM319, xM319⟩ := P320
                          obtain ⟨v321, hv321, rv321⟩ := gRd IM319 (by decide) (gsz hsz (by decide)) rc_190_12.1
                          refine g_istore_n (n := 320) (L' := [(3, gJ v318), (2, gJ v271), (1, gJ v7), (0, gA n0 190)]) X dX12_factor_319 rfl (by decide) rfl rfl ?_
                          refine g_aload_n (n := 321) X 3 dX12_factor_320 rfl rfl rfl ?_
                          obtain ⟨v322, hv322, rv322⟩ := gRd IM319 (by decide) (gsz hsz (by decide)) rc_190_13.1
                          refine gg_12_13 (n := 324) (z := v322) X (by decide) (gsz hsz (by decide)) lay_190 kw_6_39 dX12_factor_321 rfl hv322 ?_
                          refine g_if_eq (n := 327) (tgt := 331) X dX12_factor_324 (by decide) (by omega) rfl (fun c323 => ?_) (fun c323 => ?_)
                          · refine g_aload_n (n := 332) X 3 dX12_factor_331 rfl rfl rfl ?_
                            refine g_iload_n (n := 333) X 2 dX12_factor_332 rfl rfl rfl ?_
                            refine g_callVi (n := 336) (As := [gJ v7]) (rest := []) (cs1 := 0) (ss1 := 0) X (s_X12_stands v7 (by omega) hsz IM319 CM319 ) okX12_stands kw_7_62 ⟨kw_7_64, kw_0_67⟩ ⟨rfl, rfl⟩ (by first | exact ⟨Nat.le_of_ble_eq_true rfl, Nat.le_of_ble_eq_true rfl⟩ | (refine ⟨?_, ?_⟩ <;> (simp only [RF, RE, RO, R_X12_here, R_X12_must, R_X12_number, R_X12_letter, R_X12_stands, R_X12_isAtOwn]; omega))) rfl (by decide) (gsz hsz (by decide)) lay_190 rfl rfl (Nat.le_of_ble_eq_true rfl) ⟨Nat.le_of_ble_eq_true rfl, Nat.le_of_ble_eq_true rfl⟩ rfl rfl dX12_factor_333 rfl (fun v324 M325 P326 => ?_)
                            obtain ⟨rfl, rv324⟩ := P326
                            refine g_istore (n := 338) (L' := [(4, gJ v324), (3, gJ v318), (2, gJ v271), (1, gJ v7), (0, gA n0 190)]) X dX12_factor_336 (by decide) rfl rfl ?_
                            refine g_iload_n (n := 339) X 2 dX12_factor_338 rfl rfl rfl ?_
                            refine g_bipush (n := 341) X dX12_factor_339 (by decide +kernel) rfl ?_
                            refine g_icmp_ne (n := 344) (tgt := 358) X dX12_factor_341 (by decide) (by omega) (by omega) rfl (fun c327 => ?_) (fun c327 => ?_)
                            · refine g_iload (n := 360) X 0 dX12_factor_358 rfl rfl ?_
                              refine g_iload_n (n := 361) X 1 dX12_factor_360 rfl rfl rfl ?_
                              refine g_icmp_le (n := 364) (tgt := 368) X dX12_factor_361 (by decide) (by omega) (by omega) rfl (fun c328 => ?_) (fun c328 => ?_)
                              · refine g_iconst (n := 369) X dX12_factor_368 rfl ?_
                                exact hq _ _ _ _ dX12_factor_369 (by omega) ⟨by omega, IM319, CM319, (gFr.c (gFr.s (gFr.s (gFr.s (gFr.s gFr.rf e267 rc_190_13.2.2 rfl) e270 rc_190_12.2.2 rfl) e314 rc_190_13.2.2 rfl) e317 rc_190_12.2.2 rfl) FM319 rfl), by have q12 := hv321; have q14 := ((gFr.at FM319 rc_190_14.2.2 rfl).trans ((congrFun (congrFun e317 _) _).trans ((gset_ne (by omega)).trans ((congrFun (congrFun e314 _) _).trans ((gset_ne (by omega)).trans ((congrFun (congrFun e270 _) _).trans ((gset_ne (by omega)).trans ((congrFun (congrFun e267 _) _).trans ((gset_ne (by omega)).trans hv2))))))))); omega⟩
                              · refine g_iconst (n := 365) X dX12_factor_364 rfl ?_
                                refine g_goto (tgt := 369) X dX12_factor_365 (by decide) ?_
                                exact hq _ _ _ _ dX12_factor_369 (by omega) ⟨by omega, IM319, CM319, (gFr.c (gFr.s (gFr.s (gFr.s (gFr.s gFr.rf e267 rc_190_13.2.2 rfl) e270 rc_190_12.2.2 rfl) e314 rc_190_13.2.2 rfl) e317 rc_190_12.2.2 rfl) FM319 rfl), by have q12 := hv321; have q14 := ((gFr.at FM319 rc_190_14.2.2 rfl).trans ((congrFun (congrFun e317 _) _).trans ((gset_ne (by omega)).trans ((congrFun (congrFun e314 _) _).trans ((gset_ne (by omega)).trans ((congrFun (congrFun e270 _) _).trans ((gset_ne (by omega)).trans ((congrFun (congrFun e267 _) _).trans ((gset_ne (by omega)).trans hv2))))))))); omega⟩
                            · refine g_iload (n := 346) X 0 dX12_factor_344 rfl rfl ?_
                              refine g_iload_n (n := 347) X 1 dX12_factor_346 rfl rfl rfl ?_
                              refine g_icmp_ge (n := 350) (tgt := 354) X dX12_factor_347 (by decide) (by omega) (by omega) rfl (fun c329 => ?_) (fun c329 => ?_)
                              · refine g_iconst (n := 355) X dX12_factor_354 rfl ?_
                                refine g_goto (tgt := 369) X dX12_factor_355 (by decide) ?_
                                exact hq _ _ _ _ dX12_factor_369 (by omega) ⟨by omega, IM319, CM319, (gFr.c (gFr.s (gFr.s (gFr.s (gFr.s gFr.rf e267 rc_190_13.2.2 rfl) e270 rc_190_12.2.2 rfl) e314 rc_190_13.2.2 rfl) e317 rc_190_12.2.2 rfl) FM319 rfl), by have q12 := hv321; have q14 := ((gFr.at FM319 rc_190_14.2.2 rfl).trans ((congrFun (congrFun e317 _) _).trans ((gset_ne (by omega)).trans ((congrFun (congrFun e314 _) _).trans ((gset_ne (by omega)).trans ((congrFun (congrFun e270 _) _).trans ((gset_ne (by omega)).trans ((congrFun (congrFun e267 _) _).trans ((gset_ne (by omega)).trans hv2))))))))); omega⟩
                              · refine g_iconst (n := 351) X dX12_factor_350 rfl ?_
                                refine g_goto (tgt := 369) X dX12_factor_351 (by decide) ?_
                                exact hq _ _ _ _ dX12_factor_369 (by omega) ⟨by omega, IM319, CM319, (gFr.c (gFr.s (gFr.s (gFr.s (gFr.s gFr.rf e267 rc_190_13.2.2 rfl) e270 rc_190_12.2.2 rfl) e314 rc_190_13.2.2 rfl) e317 rc_190_12.2.2 rfl) FM319 rfl), by have q12 := hv321; have q14 := ((gFr.at FM319 rc_190_14.2.2 rfl).trans ((congrFun (congrFun e317 _) _).trans ((gset_ne (by omega)).trans ((congrFun (congrFun e314 _) _).trans ((gset_ne (by omega)).trans ((congrFun (congrFun e270 _) _).trans ((gset_ne (by omega)).trans ((congrFun (congrFun e267 _) _).trans ((gset_ne (by omega)).trans hv2))))))))); omega⟩
                          · refine g_iconst (n := 328) X dX12_factor_327 rfl ?_
                            refine g_goto (tgt := 336) X dX12_factor_328 (by decide) ?_
                            refine g_istore (n := 338) (L' := [(4, gJ 0), (3, gJ v318), (2, gJ v271), (1, gJ v7), (0, gA n0 190)]) X dX12_factor_336 (by decide) rfl rfl ?_
                            refine g_iload_n (n := 339) X 2 dX12_factor_338 rfl rfl rfl ?_
                            refine g_bipush (n := 341) X dX12_factor_339 (by decide +kernel) rfl ?_
                            refine g_icmp_ne (n := 344) (tgt := 358) X dX12_factor_341 (by decide) (by omega) (by omega) rfl (fun c330 => ?_) (fun c330 => ?_)
                            · refine g_iload (n := 360) X 0 dX12_factor_358 rfl rfl ?_
                              refine g_iload_n (n := 361) X 1 dX12_factor_360 rfl rfl rfl ?_
                              refine g_icmp_le (n := 364) (tgt := 368) X dX12_factor_361 (by decide) (by omega) (by omega) rfl (fun c331 => ?_) (fun c331 => by exfalso; omega)
                              refine g_iconst (n := 369) X dX12_factor_368 rfl ?_
                              exact hq _ _ _ _ dX12_factor_369 (by omega) ⟨by omega, IM319, CM319, (gFr.c (gFr.s (gFr.s (gFr.s (gFr.s gFr.rf e267 rc_190_13.2.2 rfl) e270 rc_190_12.2.2 rfl) e314 rc_190_13.2.2 rfl) e317 rc_190_12.2.2 rfl) FM319 rfl), by have q12 := hv321; have q14 := ((gFr.at FM319 rc_190_14.2.2 rfl).trans ((congrFun (congrFun e317 _) _).trans ((gset_ne (by omega)).trans ((congrFun (congrFun e314 _) _).trans ((gset_ne (by omega)).trans ((congrFun (congrFun e270 _) _).trans ((gset_ne (by omega)).trans ((congrFun (congrFun e267 _) _).trans ((gset_ne (by omega)).trans hv2))))))))); omega⟩
                            · refine g_iload (n := 346) X 0 dX12_factor_344 rfl rfl ?_
                              refine g_iload_n (n := 347) X 1 dX12_factor_346 rfl rfl rfl ?_
                              refine g_icmp_ge (n := 350) (tgt := 354) X dX12_factor_347 (by decide) (by omega) (by omega) rfl (fun c332 => ?_) (fun c332 => ?_)
                              · refine g_iconst (n := 355) X dX12_factor_354 rfl ?_
                                refine g_goto (tgt := 369) X dX12_factor_355 (by decide) ?_
                                exact hq _ _ _ _ dX12_factor_369 (by omega) ⟨by omega, IM319, CM319, (gFr.c (gFr.s (gFr.s (gFr.s (gFr.s gFr.rf e267 rc_190_13.2.2 rfl) e270 rc_190_12.2.2 rfl) e314 rc_190_13.2.2 rfl) e317 rc_190_12.2.2 rfl) FM319 rfl), by have q12 := hv321; have q14 := ((gFr.at FM319 rc_190_14.2.2 rfl).trans ((congrFun (congrFun e317 _) _).trans ((gset_ne (by omega)).trans ((congrFun (congrFun e314 _) _).trans ((gset_ne (by omega)).trans ((congrFun (congrFun e270 _) _).trans ((gset_ne (by omega)).trans ((congrFun (congrFun e267 _) _).trans ((gset_ne (by omega)).trans hv2))))))))); omega⟩
                              · refine g_iconst (n := 351) X dX12_factor_350 rfl ?_
                                refine g_goto (tgt := 369) X dX12_factor_351 (by decide) ?_
                                exact hq _ _ _ _ dX12_factor_369 (by omega) ⟨by omega, IM319, CM319, (gFr.c (gFr.s (gFr.s (gFr.s (gFr.s gFr.rf e267 rc_190_13.2.2 rfl) e270 rc_190_12.2.2 rfl) e314 rc_190_13.2.2 rfl) e317 rc_190_12.2.2 rfl) FM319 rfl), by have q12 := hv321; have q14 := ((gFr.at FM319 rc_190_14.2.2 rfl).trans ((congrFun (congrFun e317 _) _).trans ((gset_ne (by omega)).trans ((congrFun (congrFun e314 _) _).trans ((gset_ne (by omega)).trans ((congrFun (congrFun e270 _) _).trans ((gset_ne (by omega)).trans ((congrFun (congrFun e267 _) _).trans ((gset_ne (by omega)).trans hv2))))))))); omega⟩
                    · refine g_iconst (n := 232) X dX12_factor_231 rfl ?_
                      refine g_goto (tgt := 236) X dX12_factor_232 (by decide) ?_
                      refine gp_12_13 (n := 239) X (by decide) (gsz hsz (by decide)) lay_190 kw_6_39 (by omega) dX12_factor_236 rfl ?_
                      refine G.nm (fun M333 e334 => ?_)
                      have IM333 : gI sz M333 := gI.set I rc_190_13.1 (by omega) e334
                      have CM333 : gC sz M333 := gC.set C rc_190_13.2.1 e334
                      refine g_aload_n (n := 240) X 1 dX12_factor_239 rfl rfl rfl ?_
                      refine g_dup (n := 241) X dX12_factor_240 rfl rfl ?_
                      refine gg_12_12 (n := 244) (z := v1) X (by decide) (gsz hsz (by decide)) lay_190 kw_6_38 dX12_factor_241 rfl ((congrFun (congrFun e334 _) _).trans ((gset_ne (by omega)).trans hv1)) ?_
                      refine g_aload_n (n := 245) X 1 dX12_factor_244 rfl rfl rfl ?_
                      refine gg_12_13 (n := 248) (z := 1) X (by decide) (gsz hsz (by decide)) lay_190 kw_6_39 dX12_factor_245 rfl ((congrFun (congrFun e334 _) _).trans (gset_eq _ _ _ _)) ?_
                      refine g_if_eq (n := 251) (tgt := 255) X dX12_factor_248 (by decide) (by omega) rfl (fun c335 => by exfalso; omega) (fun c335 => ?_)
                      refine g_iconst (n := 252) X dX12_factor_251 rfl ?_
                      refine g_goto (tgt := 256) X dX12_factor_252 (by decide) ?_
                      refine g_iadd (n := 257) (z := v1) X dX12_factor_256 (by omega) rfl ?_
                      refine gp_12_12 (n := 260) X (by decide) (gsz hsz (by decide)) lay_190 kw_6_38 dX12_factor_257 rfl ?_
                      refine G.nm (fun M336 e337 => ?_)
                      have IM336 : gI sz M336 := gI.set IM333 rc_190_12.1 (by omega) e337
                      have CM336 : gC sz M336 := gC.set CM333 rc_190_12.2.1 e337
                      refine g_aload_n (n := 261) X 1 dX12_factor_260 rfl rfl rfl ?_
                      have tM336_12 : M336 190 12 = v1 := ((congrFun (congrFun e337 _) _).trans (gset_eq _ _ _ _))
                      refine g_callVi (n := 264) (As := []) (rest := []) (cs1 := 0) (ss1 := 0) X (s_X12_here  hsz IM336 CM336 ) okX12_here kw_7_26 ⟨kw_7_28, kw_0_58⟩ ⟨rfl, rfl⟩ (by first | exact ⟨Nat.le_of_ble_eq_true rfl, Nat.le_of_ble_eq_true rfl⟩ | (refine ⟨?_, ?_⟩ <;> (simp only [RF, RE, RO, R_X12_here, R_X12_must, R_X12_number, R_X12_letter, R_X12_stands, R_X12_isAtOwn]; omega))) rfl (by decide) (gsz hsz (by decide)) lay_190 rfl rfl (Nat.le_of_ble_eq_true rfl) ⟨Nat.le_of_ble_eq_true rfl, Nat.le_of_ble_eq_true rfl⟩ rfl rfl dX12_factor_261 rfl (fun v338 M339 P340 => ?_)
                      obtain ⟨rfl, rv338, xv338⟩ := P340
                      refine g_istore_n (n := 265) (L' := [(2, gJ v338), (1, gJ v7), (0, gA n0 190)]) X dX12_factor_264 rfl (by decide) rfl rfl ?_
                      refine g_aload_n (n := 266) X 2 dX12_factor_265 rfl rfl rfl ?_
                      refine g_aload_n (n := 267) X 2 dX12_factor_266 rfl rfl rfl ?_
                      refine gg_12_13 (n := 270) (z := 1) X (by decide) (gsz hsz (by decide)) lay_190 kw_6_39 dX12_factor_267 rfl ((congrFun (congrFun e337 _) _).trans ((gset_ne (by omega)).trans ((congrFun (congrFun e334 _) _).trans (gset_eq _ _ _ _)))) ?_
                      refine g_if_ne (n := 273) (tgt := 285) X dX12_factor_270 (by decide) (by omega) rfl (fun c341 => ?_) (fun c341 => by exfalso; omega)
                      refine g_iconst (n := 286) X dX12_factor_285 rfl ?_
                      refine g_goto (tgt := 290) X dX12_factor_286 (by decide) ?_
                      refine gp_12_13 (n := 293) X (by decide) (gsz hsz (by decide)) lay_190 kw_6_39 (by omega) dX12_factor_290 rfl ?_
                      refine G.nm (fun M342 e343 => ?_)
                      have IM342 : gI sz M342 := gI.set IM336 rc_190_13.1 (by omega) e343
                      have CM342 : gC sz M342 := gC.set CM336 rc_190_13.2.1 e343
                      refine g_aload_n (n := 294) X 2 dX12_factor_293 rfl rfl rfl ?_
                      refine g_dup (n := 295) X dX12_factor_294 rfl rfl ?_
                      refine gg_12_12 (n := 298) (z := v1) X (by decide) (gsz hsz (by decide)) lay_190 kw_6_38 dX12_factor_295 rfl ((congrFun (congrFun e343 _) _).trans ((gset_ne (by omega)).trans ((congrFun (congrFun e337 _) _).trans (gset_eq _ _ _ _)))) ?_
                      refine g_aload_n (n := 299) X 2 dX12_factor_298 rfl rfl rfl ?_
                      refine gg_12_13 (n := 302) (z := 1) X (by decide) (gsz hsz (by decide)) lay_190 kw_6_39 dX12_factor_299 rfl ((congrFun (congrFun e343 _) _).trans (gset_eq _ _ _ _)) ?_
                      refine g_if_eq (n := 305) (tgt := 309) X dX12_factor_302 (by decide) (by omega) rfl (fun c344 => by exfalso; omega) (fun c344 => ?_)
                      refine g_iconst (n := 306) X dX12_factor_305 rfl ?_
                      refine g_goto (tgt := 310) X dX12_factor_306 (by decide) ?_
                      refine g_iadd (n := 311) (z := v1) X dX12_factor_310 (by omega) rfl ?_
                      refine gp_12_12 (n := 314) X (by decide) (gsz hsz (by decide)) lay_190 kw_6_38 dX12_factor_311 rfl ?_
                      refine G.nm (fun M345 e346 => ?_)
                      have IM345 : gI sz M345 := gI.set IM342 rc_190_12.1 (by omega) e346
                      have CM345 : gC sz M345 := gC.set CM342 rc_190_12.2.1 e346
                      refine g_aload_n (n := 315) X 2 dX12_factor_314 rfl rfl rfl ?_
                      refine g_iconst (n := 316) X dX12_factor_315 rfl ?_
                      have tM345_12 : M345 190 12 = v1 := ((congrFun (congrFun e346 _) _).trans (gset_eq _ _ _ _))
                      refine g_callVi (n := 319) (As := [gJ 2]) (rest := []) (cs1 := 0) (ss1 := 0) X (s_X12_number 2 (by omega) hsz IM345 CM345 ) okX12_number kw_7_34 ⟨kw_7_36, kw_0_60⟩ ⟨rfl, rfl⟩ (by first | exact ⟨Nat.le_of_ble_eq_true rfl, Nat.le_of_ble_eq_true rfl⟩ | (refine ⟨?_, ?_⟩ <;> (simp only [RF, RE, RO, R_X12_here, R_X12_must, R_X12_number, R_X12_letter, R_X12_stands, R_X12_isAtOwn]; omega))) rfl (by decide) (gsz hsz (by decide)) lay_190 rfl rfl (Nat.le_of_ble_eq_true rfl) ⟨Nat.le_of_ble_eq_true rfl, Nat.le_of_ble_eq_true rfl⟩ rfl rfl dX12_factor_316 rfl (fun v347 M348 P349 => ?_)
                      obtain ⟨rv347, IM348, CM348, FM348, xM348⟩ := P349
                      obtain ⟨v350, hv350, rv350⟩ := gRd IM348 (by decide) (gsz hsz (by decide)) rc_190_12.1
                      refine g_istore_n (n := 320) (L' := [(3, gJ v347), (2, gJ v338), (1, gJ v7), (0, gA n0 190)]) X dX12_factor_319 rfl (by decide) rfl rfl ?_
                      refine g_aload_n (n := 321) X 3 dX12_factor_320 rfl rfl rfl ?_
                      obtain ⟨v351, hv351, rv351⟩ := gRd IM348 (by decide) (gsz hsz (by decide)) rc_190_13.1
                      refine gg_12_13 (n := 324) (z := v351) X (by decide) (gsz hsz (by decide)) lay_190 kw_6_39 dX12_factor_321 rfl hv351 ?_
                      refine g_if_eq (n := 327) (tgt := 331) X dX12_factor_324 (by decide) (by omega) rfl (fun c352 => ?_) (fun c352 => ?_)
                      · refine g_aload_n (n := 332) X 3 dX12_factor_331 rfl rfl rfl ?_
                        refine g_iload_n (n := 333) X 2 dX12_factor_332 rfl rfl rfl ?_
                        refine g_callVi (n := 336) (As := [gJ v7]) (rest := []) (cs1 := 0) (ss1 := 0) X (s_X12_stands v7 (by omega) hsz IM348 CM348 ) okX12_stands kw_7_62 ⟨kw_7_64, kw_0_67⟩ ⟨rfl, rfl⟩ (by first | exact ⟨Nat.le_of_ble_eq_true rfl, Nat.le_of_ble_eq_true rfl⟩ | (refine ⟨?_, ?_⟩ <;> (simp only [RF, RE, RO, R_X12_here, R_X12_must, R_X12_number, R_X12_letter, R_X12_stands, R_X12_isAtOwn]; omega))) rfl (by decide) (gsz hsz (by decide)) lay_190 rfl rfl (Nat.le_of_ble_eq_true rfl) ⟨Nat.le_of_ble_eq_true rfl, Nat.le_of_ble_eq_true rfl⟩ rfl rfl dX12_factor_333 rfl (fun v353 M354 P355 => ?_)
                        obtain ⟨rfl, rv353⟩ := P355
                        refine g_istore (n := 338) (L' := [(4, gJ v353), (3, gJ v347), (2, gJ v338), (1, gJ v7), (0, gA n0 190)]) X dX12_factor_336 (by decide) rfl rfl ?_
                        refine g_iload_n (n := 339) X 2 dX12_factor_338 rfl rfl rfl ?_
                        refine g_bipush (n := 341) X dX12_factor_339 (by decide +kernel) rfl ?_
                        refine g_icmp_ne (n := 344) (tgt := 358) X dX12_factor_341 (by decide) (by omega) (by omega) rfl (fun c356 => ?_) (fun c356 => ?_)
                        · refine g_iload (n := 360) X 0 dX12_factor_358 rfl rfl ?_
                          refine g_iload_n (n := 361) X 1 dX12_factor_360 rfl rfl rfl ?_
                          refine g_icmp_le (n := 364) (tgt := 368) X dX12_factor_361 (by decide) (by omega) (by omega) rfl (fun c357 => ?_) (fun c357 => ?_)
                          · refine g_iconst (n := 369) X dX12_factor_368 rfl ?_
                            exact hq _ _ _ _ dX12_factor_369 (by omega) ⟨by omega, IM348, CM348, (gFr.c (gFr.s (gFr.s (gFr.s (gFr.s gFr.rf e334 rc_190_13.2.2 rfl) e337 rc_190_12.2.2 rfl) e343 rc_190_13.2.2 rfl) e346 rc_190_12.2.2 rfl) FM348 rfl), by have q12 := hv350; have q14 := ((gFr.at FM348 rc_190_14.2.2 rfl).trans ((congrFun (congrFun e346 _) _).trans ((gset_ne (by omega)).trans ((congrFun (congrFun e343 _) _).trans ((gset_ne (by omega)).trans ((congrFun (congrFun e337 _) _).trans ((gset_ne (by omega)).trans ((congrFun (congrFun e334 _) _).trans ((gset_ne (by omega)).trans hv2))))))))); omega⟩
                          · refine g_iconst (n := 365) X dX12_factor_364 rfl ?_
                            refine g_goto (tgt := 369) X dX12_factor_365 (by decide) ?_
                            exact hq _ _ _ _ dX12_factor_369 (by omega) ⟨by omega, IM348, CM348, (gFr.c (gFr.s (gFr.s (gFr.s (gFr.s gFr.rf e334 rc_190_13.2.2 rfl) e337 rc_190_12.2.2 rfl) e343 rc_190_13.2.2 rfl) e346 rc_190_12.2.2 rfl) FM348 rfl), by have q12 := hv350; have q14 := ((gFr.at FM348 rc_190_14.2.2 rfl).trans ((congrFun (congrFun e346 _) _).trans ((gset_ne (by omega)).trans ((congrFun (congrFun e343 _) _).trans ((gset_ne (by omega)).trans ((congrFun (congrFun e337 _) _).trans ((gset_ne (by omega)).trans ((congrFun (congrFun e334 _) _).trans ((gset_ne (by omega)).trans hv2))))))))); omega⟩
                        · refine g_iload (n := 346) X 0 dX12_factor_344 rfl rfl ?_
                          refine g_iload_n (n := 347) X 1 dX12_factor_346 rfl rfl rfl ?_
                          refine g_icmp_ge (n := 350) (tgt := 354) X dX12_factor_347 (by decide) (by omega) (by omega) rfl (fun c358 => ?_) (fun c358 => ?_)
                          · refine g_iconst (n := 355) X dX12_factor_354 rfl ?_
                            refine g_goto (tgt := 369) X dX12_factor_355 (by decide) ?_
                            exact hq _ _ _ _ dX12_factor_369 (by omega) ⟨by omega, IM348, CM348, (gFr.c (gFr.s (gFr.s (gFr.s (gFr.s gFr.rf e334 rc_190_13.2.2 rfl) e337 rc_190_12.2.2 rfl) e343 rc_190_13.2.2 rfl) e346 rc_190_12.2.2 rfl) FM348 rfl), by have q12 := hv350; have q14 := ((gFr.at FM348 rc_190_14.2.2 rfl).trans ((congrFun (congrFun e346 _) _).trans ((gset_ne (by omega)).trans ((congrFun (congrFun e343 _) _).trans ((gset_ne (by omega)).trans ((congrFun (congrFun e337 _) _).trans ((gset_ne (by omega)).trans ((congrFun (congrFun e334 _) _).trans ((gset_ne (by omega)).trans hv2))))))))); omega⟩
                          · refine g_iconst (n := 351) X dX12_factor_350 rfl ?_
                            refine g_goto (tgt := 369) X dX12_factor_351 (by decide) ?_
                            exact hq _ _ _ _ dX12_factor_369 (by omega) ⟨by omega, IM348, CM348, (gFr.c (gFr.s (gFr.s (gFr.s (gFr.s gFr.rf e334 rc_190_13.2.2 rfl) e337 rc_190_12.2.2 rfl) e343 rc_190_13.2.2 rfl) e346 rc_190_12.2.2 rfl) FM348 rfl), by have q12 := hv350; have q14 := ((gFr.at FM348 rc_190_14.2.2 rfl).trans ((congrFun (congrFun e346 _) _).trans ((gset_ne (by omega)).trans ((congrFun (congrFun e343 _) _).trans ((gset_ne (by omega)).trans ((congrFun (congrFun e337 _) _).trans ((gset_ne (by omega)).trans ((congrFun (congrFun e334 _) _).trans ((gset_ne (by omega)).trans hv2))))))))); omega⟩
                      · refine g_iconst (n := 328) X dX12_factor_327 rfl ?_
                        refine g_goto (tgt := 336) X dX12_factor_328 (by decide) ?_
                        refine g_istore (n := 338) (L' := [(4, gJ 0), (3, gJ v347), (2, gJ v338), (1, gJ v7), (0, gA n0 190)]) X dX12_factor_336 (by decide) rfl rfl ?_
                        refine g_iload_n (n := 339) X 2 dX12_factor_338 rfl rfl rfl ?_
                        refine g_bipush (n := 341) X dX12_factor_339 (by decide +kernel) rfl ?_
                        refine g_icmp_ne (n := 344) (tgt := 358) X dX12_factor_341 (by decide) (by omega) (by omega) rfl (fun c359 => ?_) (fun c359 => ?_)
                        · refine g_iload (n := 360) X 0 dX12_factor_358 rfl rfl ?_
                          refine g_iload_n (n := 361) X 1 dX12_factor_360 rfl rfl rfl ?_
                          refine g_icmp_le (n := 364) (tgt := 368) X dX12_factor_361 (by decide) (by omega) (by omega) rfl (fun c360 => ?_) (fun c360 => by exfalso; omega)
                          refine g_iconst (n := 369) X dX12_factor_368 rfl ?_
                          exact hq _ _ _ _ dX12_factor_369 (by omega) ⟨by omega, IM348, CM348, (gFr.c (gFr.s (gFr.s (gFr.s (gFr.s gFr.rf e334 rc_190_13.2.2 rfl) e337 rc_190_12.2.2 rfl) e343 rc_190_13.2.2 rfl) e346 rc_190_12.2.2 rfl) FM348 rfl), by have q12 := hv350; have q14 := ((gFr.at FM348 rc_190_14.2.2 rfl).trans ((congrFun (congrFun e346 _) _).trans ((gset_ne (by omega)).trans ((congrFun (congrFun e343 _) _).trans ((gset_ne (by omega)).trans ((congrFun (congrFun e337 _) _).trans ((gset_ne (by omega)).trans ((congrFun (congrFun e334 _) _).trans ((gset_ne (by omega)).trans hv2))))))))); omega⟩
                        · refine g_iload (n := 346) X 0 dX12_factor_344 rfl rfl ?_
                          refine g_iload_n (n := 347) X 1 dX12_factor_346 rfl rfl rfl ?_
                          refine g_icmp_ge (n := 350) (tgt := 354) X dX12_factor_347 (by decide) (by omega) (by omega) rfl (fun c361 => ?_) (fun c361 => ?_)
                          · refine g_iconst (n := 355) X dX12_factor_354 rfl ?_
                            refine g_goto (tgt := 369) X dX12_factor_355 (by decide) ?_
                            exact hq _ _ _ _ dX12_factor_369 (by omega) ⟨by omega, IM348, CM348, (gFr.c (gFr.s (gFr.s (gFr.s (gFr.s gFr.rf e334 rc_190_13.2.2 rfl) e337 rc_190_12.2.2 rfl) e343 rc_190_13.2.2 rfl) e346 rc_190_12.2.2 rfl) FM348 rfl), by have q12 := hv350; have q14 := ((gFr.at FM348 rc_190_14.2.2 rfl).trans ((congrFun (congrFun e346 _) _).trans ((gset_ne (by omega)).trans ((congrFun (congrFun e343 _) _).trans ((gset_ne (by omega)).trans ((congrFun (congrFun e337 _) _).trans ((gset_ne (by omega)).trans ((congrFun (congrFun e334 _) _).trans ((gset_ne (by omega)).trans hv2))))))))); omega⟩
                          · refine g_iconst (n := 351) X dX12_factor_350 rfl ?_
                            refine g_goto (tgt := 369) X dX12_factor_351 (by decide) ?_
                            exact hq _ _ _ _ dX12_factor_369 (by omega) ⟨by omega, IM348, CM348, (gFr.c (gFr.s (gFr.s (gFr.s (gFr.s gFr.rf e334 rc_190_13.2.2 rfl) e337 rc_190_12.2.2 rfl) e343 rc_190_13.2.2 rfl) e346 rc_190_12.2.2 rfl) FM348 rfl), by have q12 := hv350; have q14 := ((gFr.at FM348 rc_190_14.2.2 rfl).trans ((congrFun (congrFun e346 _) _).trans ((gset_ne (by omega)).trans ((congrFun (congrFun e343 _) _).trans ((gset_ne (by omega)).trans ((congrFun (congrFun e337 _) _).trans ((gset_ne (by omega)).trans ((congrFun (congrFun e334 _) _).trans ((gset_ne (by omega)).trans hv2))))))))); omega⟩
            · refine g_aload_n (n := 170) X 1 dX12_factor_169 rfl rfl rfl ?_
              refine g_dup (n := 171) X dX12_factor_170 rfl rfl ?_
              refine gg_12_12 (n := 174) (z := v1) X (by decide) (gsz hsz (by decide)) lay_190 kw_6_38 dX12_factor_171 rfl hv1 ?_
              refine g_iconst (n := 175) X dX12_factor_174 rfl ?_
              refine g_iadd (n := 176) (z := v1 + 1) X dX12_factor_175 (by omega) rfl ?_
              refine gp_12_12 (n := 179) X (by decide) (gsz hsz (by decide)) lay_190 kw_6_38 dX12_factor_176 rfl ?_
              refine G.nm (fun M362 e363 => ?_)
              have IM362 : gI sz M362 := gI.set I rc_190_12.1 (by omega) e363
              have CM362 : gC sz M362 := gC.set C rc_190_12.2.1 e363
              refine g_aload_n (n := 180) X 1 dX12_factor_179 rfl rfl rfl ?_
              refine g_bipush (n := 182) X dX12_factor_180 (by decide +kernel) rfl ?_
              have tM362_12 : M362 190 12 = v1 + 1 := ((congrFun (congrFun e363 _) _).trans (gset_eq _ _ _ _))
              refine g_callVv (n := 185) (As := [gJ 61]) (rest := []) (cs1 := 0) (ss1 := 0) X (s_X12_must 61 (by omega) hsz IM362 CM362 ) okX12_must kw_7_42 ⟨kw_7_44, kw_0_62⟩ ⟨rfl, rfl⟩ (by first | exact ⟨Nat.le_of_ble_eq_true rfl, Nat.le_of_ble_eq_true rfl⟩ | (refine ⟨?_, ?_⟩ <;> (simp only [RF, RE, RO, R_X12_here, R_X12_must, R_X12_number, R_X12_letter, R_X12_stands, R_X12_isAtOwn]; omega))) rfl (by decide) (gsz hsz (by decide)) lay_190 rfl rfl (Nat.le_of_ble_eq_true rfl) ⟨Nat.le_of_ble_eq_true rfl, Nat.le_of_ble_eq_true rfl⟩ rfl rfl dX12_factor_182 rfl (fun M365 P366 => ?_)
              obtain ⟨IM365, CM365, FM365, xM365⟩ := P366
              obtain ⟨v367, hv367, rv367⟩ := gRd IM365 (by decide) (gsz hsz (by decide)) rc_190_12.1
              refine g_aload_n (n := 186) X 1 dX12_factor_185 rfl rfl rfl ?_
              refine g_iconst (n := 187) X dX12_factor_186 rfl ?_
              refine g_callVi (n := 190) (As := [gJ 1]) (rest := []) (cs1 := 0) (ss1 := 0) X (s_X12_number 1 (by omega) hsz IM365 CM365 ) okX12_number kw_7_34 ⟨kw_7_36, kw_0_60⟩ ⟨rfl, rfl⟩ (by first | exact ⟨Nat.le_of_ble_eq_true rfl, Nat.le_of_ble_eq_true rfl⟩ | (refine ⟨?_, ?_⟩ <;> (simp only [RF, RE, RO, R_X12_here, R_X12_must, R_X12_number, R_X12_letter, R_X12_stands, R_X12_isAtOwn]; omega))) rfl (by decide) (gsz hsz (by decide)) lay_190 rfl rfl (Nat.le_of_ble_eq_true rfl) ⟨Nat.le_of_ble_eq_true rfl, Nat.le_of_ble_eq_true rfl⟩ rfl rfl dX12_factor_187 rfl (fun v368 M369 P370 => ?_)
              obtain ⟨rv368, IM369, CM369, FM369, xM369⟩ := P370
              obtain ⟨v371, hv371, rv371⟩ := gRd IM369 (by decide) (gsz hsz (by decide)) rc_190_12.1
              refine g_istore_n (n := 191) (L' := [(2, gJ v368), (1, gJ v7), (0, gA n0 190)]) X dX12_factor_190 rfl (by decide) rfl rfl ?_
              refine g_aload_n (n := 192) X 2 dX12_factor_191 rfl rfl rfl ?_
              refine g_iload_n (n := 193) X 1 dX12_factor_192 rfl rfl rfl ?_
              refine g_callVi (n := 196) (As := [gJ v7]) (rest := []) (cs1 := 0) (ss1 := 0) X (s_X12_stands v7 (by omega) hsz IM369 CM369 ) okX12_stands kw_7_62 ⟨kw_7_64, kw_0_67⟩ ⟨rfl, rfl⟩ (by first | exact ⟨Nat.le_of_ble_eq_true rfl, Nat.le_of_ble_eq_true rfl⟩ | (refine ⟨?_, ?_⟩ <;> (simp only [RF, RE, RO, R_X12_here, R_X12_must, R_X12_number, R_X12_letter, R_X12_stands, R_X12_isAtOwn]; omega))) rfl (by decide) (gsz hsz (by decide)) lay_190 rfl rfl (Nat.le_of_ble_eq_true rfl) ⟨Nat.le_of_ble_eq_true rfl, Nat.le_of_ble_eq_true rfl⟩ rfl rfl dX12_factor_193 rfl (fun v372 M373 P374 => ?_)
              obtain ⟨rfl, rv372⟩ := P374
              refine g_iload_n (n := 197) X 0 dX12_factor_196 rfl rfl rfl ?_
              refine g_icmp_ne (n := 200) (tgt := 204) X dX12_factor_197 (by decide) (by omega) (by omega) rfl (fun c375 => ?_) (fun c375 => ?_)
              · refine g_iconst (n := 205) X dX12_factor_204 rfl ?_
                exact hq _ _ _ _ dX12_factor_205 (by omega) ⟨by omega, IM369, CM369, (gFr.c (gFr.c (gFr.s gFr.rf e363 rc_190_12.2.2 rfl) FM365 rfl) FM369 rfl), by have q12 := hv371; have q14 := ((gFr.at FM369 rc_190_14.2.2 rfl).trans ((gFr.at FM365 rc_190_14.2.2 rfl).trans ((congrFun (congrFun e363 _) _).trans ((gset_ne (by omega)).trans hv2)))); omega⟩
              · refine g_iconst (n := 201) X dX12_factor_200 rfl ?_
                refine g_goto (tgt := 205) X dX12_factor_201 (by decide) ?_
                exact hq _ _ _ _ dX12_factor_205 (by omega) ⟨by omega, IM369, CM369, (gFr.c (gFr.c (gFr.s gFr.rf e363 rc_190_12.2.2 rfl) FM365 rfl) FM369 rfl), by have q12 := hv371; have q14 := ((gFr.at FM369 rc_190_14.2.2 rfl).trans ((gFr.at FM365 rc_190_14.2.2 rfl).trans ((congrFun (congrFun e363 _) _).trans ((gset_ne (by omega)).trans hv2)))); omega⟩
        · refine g_aload_n (n := 143) X 1 dX12_factor_142 rfl rfl rfl ?_
          refine g_dup (n := 144) X dX12_factor_143 rfl rfl ?_
          refine gg_12_12 (n := 147) (z := v1) X (by decide) (gsz hsz (by decide)) lay_190 kw_6_38 dX12_factor_144 rfl hv1 ?_
          refine g_iconst (n := 148) X dX12_factor_147 rfl ?_
          refine g_iadd (n := 149) (z := v1 + 1) X dX12_factor_148 (by omega) rfl ?_
          refine gp_12_12 (n := 152) X (by decide) (gsz hsz (by decide)) lay_190 kw_6_38 dX12_factor_149 rfl ?_
          refine G.nm (fun M376 e377 => ?_)
          have IM376 : gI sz M376 := gI.set I rc_190_12.1 (by omega) e377
          have CM376 : gC sz M376 := gC.set C rc_190_12.2.1 e377
          refine g_aload_n (n := 153) X 1 dX12_factor_152 rfl rfl rfl ?_
          refine g_callVi (n := 156) (As := []) (rest := []) (cs1 := 0) (ss1 := 0) X (s_X12_isAtOwn  hsz IM376 CM376 (gW.fr (S := 147573952589676412928) W ⟨sz, hsz, I⟩ (gFr.s gFr.rf e377 rc_190_12.2.2 rfl) rfl) (by have q1 := ((congrFun (congrFun e377 _) _).trans ((gset_ne (by omega)).trans hv3)); have q2 := ((congrFun (congrFun e377 _) _).trans ((gset_ne (by omega)).trans hv4)); omega)) okX12_isAtOwn kw_7_58 ⟨kw_7_60, kw_0_66⟩ ⟨rfl, rfl⟩ (by first | exact ⟨Nat.le_of_ble_eq_true rfl, Nat.le_of_ble_eq_true rfl⟩ | (refine ⟨?_, ?_⟩ <;> (simp only [RF, RE, RO, R_X12_here, R_X12_must, R_X12_number, R_X12_letter, R_X12_stands, R_X12_isAtOwn]; omega))) rfl (by decide) (gsz hsz (by decide)) lay_190 rfl rfl (Nat.le_of_ble_eq_true rfl) ⟨Nat.le_of_ble_eq_true rfl, Nat.le_of_ble_eq_true rfl⟩ rfl rfl dX12_factor_153 rfl (fun v378 M379 P380 => ?_)
          obtain ⟨rv378, IM379, CM379, FM379⟩ := P380
          exact hq _ _ _ _ dX12_factor_156 (by omega) ⟨by omega, IM379, CM379, (gFr.c (gFr.s gFr.rf e377 rc_190_12.2.2 rfl) FM379 rfl), by have q12 := ((gFr.at FM379 rc_190_12.2.2 rfl).trans ((congrFun (congrFun e377 _) _).trans (gset_eq _ _ _ _))); have q14 := ((gFr.at FM379 rc_190_14.2.2 rfl).trans ((congrFun (congrFun e377 _) _).trans ((gset_ne (by omega)).trans hv2))); omega⟩
      · refine g_aload_n (n := 27) X 1 dX12_factor_26 rfl rfl rfl ?_
        refine g_aload_n (n := 28) X 1 dX12_factor_27 rfl rfl rfl ?_
        refine gg_12_14 (n := 31) (z := v2) X (by decide) (gsz hsz (by decide)) lay_190 kw_6_40 dX12_factor_28 rfl hv2 ?_
        refine g_bipush (n := 33) X dX12_factor_31 (by decide +kernel) rfl ?_
        refine g_icmp_ne (n := 36) (tgt := 40) X dX12_factor_33 (by decide) (by omega) (by omega) rfl (fun c381 => ?_) (fun c381 => ?_)
        · refine g_iconst (n := 41) X dX12_factor_40 rfl ?_
          refine gp_12_13 (n := 44) X (by decide) (gsz hsz (by decide)) lay_190 kw_6_39 (by omega) dX12_factor_41 rfl ?_
          refine G.nm (fun M382 e383 => ?_)
          have IM382 : gI sz M382 := gI.set I rc_190_13.1 (by omega) e383
          have CM382 : gC sz M382 := gC.set C rc_190_13.2.1 e383
          refine g_aload_n (n := 45) X 1 dX12_factor_44 rfl rfl rfl ?_
          refine g_dup (n := 46) X dX12_factor_45 rfl rfl ?_
          refine gg_12_14 (n := 49) (z := v2) X (by decide) (gsz hsz (by decide)) lay_190 kw_6_40 dX12_factor_46 rfl ((congrFun (congrFun e383 _) _).trans ((gset_ne (by omega)).trans hv2)) ?_
          refine g_iconst (n := 50) X dX12_factor_49 rfl ?_
          refine g_iadd (n := 51) (z := v2 + 1) X dX12_factor_50 (by omega) rfl ?_
          refine gp_12_14 (n := 54) X (by decide) (gsz hsz (by decide)) lay_190 kw_6_40 dX12_factor_51 rfl ?_
          refine G.nm (fun M384 e385 => ?_)
          have IM384 : gI sz M384 := gI.set IM382 rc_190_14.1 (by omega) e385
          have CM384 : gC sz M384 := gC.set CM382 rc_190_14.2.1 e385
          refine g_aload_n (n := 55) X 1 dX12_factor_54 rfl rfl rfl ?_
          refine g_dup (n := 56) X dX12_factor_55 rfl rfl ?_
          refine gg_12_12 (n := 59) (z := v1) X (by decide) (gsz hsz (by decide)) lay_190 kw_6_38 dX12_factor_56 rfl ((congrFun (congrFun e385 _) _).trans ((gset_ne (by omega)).trans ((congrFun (congrFun e383 _) _).trans ((gset_ne (by omega)).trans hv1)))) ?_
          refine g_aload_n (n := 60) X 1 dX12_factor_59 rfl rfl rfl ?_
          refine gg_12_13 (n := 63) (z := 0) X (by decide) (gsz hsz (by decide)) lay_190 kw_6_39 dX12_factor_60 rfl ((congrFun (congrFun e385 _) _).trans ((gset_ne (by omega)).trans ((congrFun (congrFun e383 _) _).trans (gset_eq _ _ _ _)))) ?_
          refine g_if_eq (n := 66) (tgt := 70) X dX12_factor_63 (by decide) (by omega) rfl (fun c386 => ?_) (fun c386 => by exfalso; omega)
          refine g_iconst (n := 71) X dX12_factor_70 rfl ?_
          refine g_iadd (n := 72) (z := v1 + 1) X dX12_factor_71 (by omega) rfl ?_
          refine gp_12_12 (n := 75) X (by decide) (gsz hsz (by decide)) lay_190 kw_6_38 dX12_factor_72 rfl ?_
          refine G.nm (fun M387 e388 => ?_)
          have IM387 : gI sz M387 := gI.set IM384 rc_190_12.1 (by omega) e388
          have CM387 : gC sz M387 := gC.set CM384 rc_190_12.2.1 e388
          refine g_aload_n (n := 76) X 1 dX12_factor_75 rfl rfl rfl ?_
          refine gg_12_13 (n := 79) (z := 0) X (by decide) (gsz hsz (by decide)) lay_190 kw_6_39 dX12_factor_76 rfl ((congrFun (congrFun e388 _) _).trans ((gset_ne (by omega)).trans ((congrFun (congrFun e385 _) _).trans ((gset_ne (by omega)).trans ((congrFun (congrFun e383 _) _).trans (gset_eq _ _ _ _)))))) ?_
          refine g_if_eq (n := 82) (tgt := 86) X dX12_factor_79 (by decide) (by omega) rfl (fun c389 => ?_) (fun c389 => by exfalso; omega)
          refine g_iload_n (n := 87) X 0 dX12_factor_86 rfl rfl rfl ?_
          refine g_bipush (n := 89) X dX12_factor_87 (by decide +kernel) rfl ?_
          refine g_icmp_ne (n := 92) (tgt := 107) X dX12_factor_89 (by decide) (by omega) (by omega) rfl (fun c390 => ?_) (fun c390 => by exfalso; omega)
          refine g_aload_n (n := 108) X 1 dX12_factor_107 rfl rfl rfl ?_
          have tM387_12 : M387 190 12 = v1 + 1 := ((congrFun (congrFun e388 _) _).trans (gset_eq _ _ _ _))
          have tM387_14 : M387 190 14 = v2 + 1 := ((congrFun (congrFun e388 _) _).trans ((gset_ne (by omega)).trans ((congrFun (congrFun e385 _) _).trans (gset_eq _ _ _ _))))
          obtain ⟨d2, rfl⟩ : ∃ d2 : Nat, d = d2 + 1 := ⟨d - 1, by omega⟩
          refine g_callVi (n := 111) (As := []) (rest := []) (cs1 := 0) (ss1 := 0) X ((rec d2 rfl).2 M387 IM387 CM387 (gW.fr (S := 1328165573307087716352) W ⟨sz, hsz, I⟩ (gFr.s (gFr.s (gFr.s gFr.rf e383 rc_190_13.2.2 rfl) e385 rc_190_14.2.2 rfl) e388 rc_190_12.2.2 rfl) rfl) (by have q1 := ((congrFun (congrFun e388 _) _).trans ((gset_ne (by omega)).trans ((congrFun (congrFun e385 _) _).trans ((gset_ne (by omega)).trans ((congrFun (congrFun e383 _) _).trans ((gset_ne (by omega)).trans hv3)))))); have q2 := ((congrFun (congrFun e388 _) _).trans ((gset_ne (by omega)).trans ((congrFun (congrFun e385 _) _).trans ((gset_ne (by omega)).trans ((congrFun (congrFun e383 _) _).trans ((gset_ne (by omega)).trans hv4)))))); omega) (by have q14 := ((congrFun (congrFun e388 _) _).trans ((gset_ne (by omega)).trans ((congrFun (congrFun e385 _) _).trans (gset_eq _ _ _ _)))); omega) (by have q14 := ((congrFun (congrFun e388 _) _).trans ((gset_ne (by omega)).trans ((congrFun (congrFun e385 _) _).trans (gset_eq _ _ _ _)))); omega)) okX12_some kw_7_46 ⟨kw_7_48, kw_0_63⟩ ⟨rfl, rfl⟩ (by first | exact ⟨Nat.le_of_ble_eq_true rfl, Nat.le_of_ble_eq_true rfl⟩ | (refine ⟨?_, ?_⟩ <;> (simp only [RF, RE, RO, R_X12_here, R_X12_must, R_X12_number, R_X12_letter, R_X12_stands, R_X12_isAtOwn]; omega))) rfl (by decide) (gsz hsz (by decide)) lay_190 rfl rfl (Nat.le_of_ble_eq_true rfl) ⟨Nat.le_of_ble_eq_true rfl, Nat.le_of_ble_eq_true rfl⟩ rfl rfl dX12_factor_108 rfl (fun v391 M392 P393 => ?_)
          obtain ⟨rv391, IM392, CM392, FM392, xM392⟩ := P393
          obtain ⟨v394, hv394, rv394⟩ := gRd IM392 (by decide) (gsz hsz (by decide)) rc_190_12.1
          refine g_istore_n (n := 112) (L' := [(2, gJ v391), (1, gJ v7), (0, gA n0 190)]) X dX12_factor_111 rfl (by decide) rfl rfl ?_
          refine g_iload_n (n := 113) X 1 dX12_factor_112 rfl rfl rfl ?_
          refine g_bipush (n := 115) X dX12_factor_113 (by decide +kernel) rfl ?_
          refine g_icmp_ne (n := 118) (tgt := 124) X dX12_factor_115 (by decide) (by omega) (by omega) rfl (fun c395 => by exfalso; omega) (fun c395 => ?_)
          refine g_aload_n (n := 119) X 2 dX12_factor_118 rfl rfl rfl ?_
          refine g_bipush (n := 121) X dX12_factor_119 (by decide +kernel) rfl ?_
          refine g_callVv (n := 124) (As := [gJ 41]) (rest := []) (cs1 := 0) (ss1 := 0) X (s_X12_must 41 (by omega) hsz IM392 CM392 ) okX12_must kw_7_42 ⟨kw_7_44, kw_0_62⟩ ⟨rfl, rfl⟩ (by first | exact ⟨Nat.le_of_ble_eq_true rfl, Nat.le_of_ble_eq_true rfl⟩ | (refine ⟨?_, ?_⟩ <;> (simp only [RF, RE, RO, R_X12_here, R_X12_must, R_X12_number, R_X12_letter, R_X12_stands, R_X12_isAtOwn]; omega))) rfl (by decide) (gsz hsz (by decide)) lay_190 rfl rfl (Nat.le_of_ble_eq_true rfl) ⟨Nat.le_of_ble_eq_true rfl, Nat.le_of_ble_eq_true rfl⟩ rfl rfl dX12_factor_121 rfl (fun M397 P398 => ?_)
          obtain ⟨IM397, CM397, FM397, xM397⟩ := P398
          obtain ⟨v399, hv399, rv399⟩ := gRd IM397 (by decide) (gsz hsz (by decide)) rc_190_12.1
          refine g_aload_n (n := 125) X 2 dX12_factor_124 rfl rfl rfl ?_
          refine g_dup (n := 126) X dX12_factor_125 rfl rfl ?_
          refine gg_12_14 (n := 129) (z := v2 + 1) X (by decide) (gsz hsz (by decide)) lay_190 kw_6_40 dX12_factor_126 rfl ((gFr.at FM397 rc_190_14.2.2 rfl).trans (xM392.2.trans ((congrFun (congrFun e388 _) _).trans ((gset_ne (by omega)).trans ((congrFun (congrFun e385 _) _).trans (gset_eq _ _ _ _)))))) ?_
          refine g_iconst (n := 130) X dX12_factor_129 rfl ?_
          refine g_isub (n := 131) (z := v2) X dX12_factor_130 (by omega) rfl ?_
          refine gp_12_14 (n := 134) X (by decide) (gsz hsz (by decide)) lay_190 kw_6_40 dX12_factor_131 rfl ?_
          refine G.nm (fun M400 e401 => ?_)
          have IM400 : gI sz M400 := gI.set IM397 rc_190_14.1 (by omega) e401
          have CM400 : gC sz M400 := gC.set CM397 rc_190_14.2.1 e401
          refine g_iload_n (n := 135) X 0 dX12_factor_134 rfl rfl rfl ?_
          exact hq _ _ _ _ dX12_factor_135 (by omega) ⟨by omega, IM400, CM400, (gFr.s (gFr.c (gFr.c (gFr.s (gFr.s (gFr.s gFr.rf e383 rc_190_13.2.2 rfl) e385 rc_190_14.2.2 rfl) e388 rc_190_12.2.2 rfl) FM392 rfl) FM397 rfl) e401 rc_190_14.2.2 rfl), by have q12 := ((congrFun (congrFun e401 _) _).trans ((gset_ne (by omega)).trans hv399)); have q14 := ((congrFun (congrFun e401 _) _).trans (gset_eq _ _ _ _)); omega⟩
        · refine g_iconst (n := 37) X dX12_factor_36 rfl ?_
          refine g_goto (tgt := 41) X dX12_factor_37 (by decide) ?_
          refine gp_12_13 (n := 44) X (by decide) (gsz hsz (by decide)) lay_190 kw_6_39 (by omega) dX12_factor_41 rfl ?_
          refine G.nm (fun M402 e403 => ?_)
          have IM402 : gI sz M402 := gI.set I rc_190_13.1 (by omega) e403
          have CM402 : gC sz M402 := gC.set C rc_190_13.2.1 e403
          refine g_aload_n (n := 45) X 1 dX12_factor_44 rfl rfl rfl ?_
          refine g_dup (n := 46) X dX12_factor_45 rfl rfl ?_
          refine gg_12_14 (n := 49) (z := v2) X (by decide) (gsz hsz (by decide)) lay_190 kw_6_40 dX12_factor_46 rfl ((congrFun (congrFun e403 _) _).trans ((gset_ne (by omega)).trans hv2)) ?_
          refine g_iconst (n := 50) X dX12_factor_49 rfl ?_
          refine g_iadd (n := 51) (z := v2 + 1) X dX12_factor_50 (by omega) rfl ?_
          refine gp_12_14 (n := 54) X (by decide) (gsz hsz (by decide)) lay_190 kw_6_40 dX12_factor_51 rfl ?_
          refine G.nm (fun M404 e405 => ?_)
          have IM404 : gI sz M404 := gI.set IM402 rc_190_14.1 (by omega) e405
          have CM404 : gC sz M404 := gC.set CM402 rc_190_14.2.1 e405
          refine g_aload_n (n := 55) X 1 dX12_factor_54 rfl rfl rfl ?_
          refine g_dup (n := 56) X dX12_factor_55 rfl rfl ?_
          refine gg_12_12 (n := 59) (z := v1) X (by decide) (gsz hsz (by decide)) lay_190 kw_6_38 dX12_factor_56 rfl ((congrFun (congrFun e405 _) _).trans ((gset_ne (by omega)).trans ((congrFun (congrFun e403 _) _).trans ((gset_ne (by omega)).trans hv1)))) ?_
          refine g_aload_n (n := 60) X 1 dX12_factor_59 rfl rfl rfl ?_
          refine gg_12_13 (n := 63) (z := 1) X (by decide) (gsz hsz (by decide)) lay_190 kw_6_39 dX12_factor_60 rfl ((congrFun (congrFun e405 _) _).trans ((gset_ne (by omega)).trans ((congrFun (congrFun e403 _) _).trans (gset_eq _ _ _ _)))) ?_
          refine g_if_eq (n := 66) (tgt := 70) X dX12_factor_63 (by decide) (by omega) rfl (fun c406 => by exfalso; omega) (fun c406 => ?_)
          refine g_iconst (n := 67) X dX12_factor_66 rfl ?_
          refine g_goto (tgt := 71) X dX12_factor_67 (by decide) ?_
          refine g_iadd (n := 72) (z := v1) X dX12_factor_71 (by omega) rfl ?_
          refine gp_12_12 (n := 75) X (by decide) (gsz hsz (by decide)) lay_190 kw_6_38 dX12_factor_72 rfl ?_
          refine G.nm (fun M407 e408 => ?_)
          have IM407 : gI sz M407 := gI.set IM404 rc_190_12.1 (by omega) e408
          have CM407 : gC sz M407 := gC.set CM404 rc_190_12.2.1 e408
          refine g_aload_n (n := 76) X 1 dX12_factor_75 rfl rfl rfl ?_
          refine gg_12_13 (n := 79) (z := 1) X (by decide) (gsz hsz (by decide)) lay_190 kw_6_39 dX12_factor_76 rfl ((congrFun (congrFun e408 _) _).trans ((gset_ne (by omega)).trans ((congrFun (congrFun e405 _) _).trans ((gset_ne (by omega)).trans ((congrFun (congrFun e403 _) _).trans (gset_eq _ _ _ _)))))) ?_
          refine g_if_eq (n := 82) (tgt := 86) X dX12_factor_79 (by decide) (by omega) rfl (fun c409 => by exfalso; omega) (fun c409 => ?_)
          refine g_iconst (n := 83) X dX12_factor_82 rfl ?_
          refine g_goto (tgt := 111) X dX12_factor_83 (by decide) ?_
          refine g_istore_n (n := 112) (L' := [(2, gJ 0), (1, gJ v7), (0, gA n0 190)]) X dX12_factor_111 rfl (by decide) rfl rfl ?_
          refine g_iload_n (n := 113) X 1 dX12_factor_112 rfl rfl rfl ?_
          refine g_bipush (n := 115) X dX12_factor_113 (by decide +kernel) rfl ?_
          refine g_icmp_ne (n := 118) (tgt := 124) X dX12_factor_115 (by decide) (by omega) (by omega) rfl (fun c410 => by exfalso; omega) (fun c410 => ?_)
          refine g_aload_n (n := 119) X 2 dX12_factor_118 rfl rfl rfl ?_
          refine g_bipush (n := 121) X dX12_factor_119 (by decide +kernel) rfl ?_
          have tM407_12 : M407 190 12 = v1 := ((congrFun (congrFun e408 _) _).trans (gset_eq _ _ _ _))
          refine g_callVv (n := 124) (As := [gJ 41]) (rest := []) (cs1 := 0) (ss1 := 0) X (s_X12_must 41 (by omega) hsz IM407 CM407 ) okX12_must kw_7_42 ⟨kw_7_44, kw_0_62⟩ ⟨rfl, rfl⟩ (by first | exact ⟨Nat.le_of_ble_eq_true rfl, Nat.le_of_ble_eq_true rfl⟩ | (refine ⟨?_, ?_⟩ <;> (simp only [RF, RE, RO, R_X12_here, R_X12_must, R_X12_number, R_X12_letter, R_X12_stands, R_X12_isAtOwn]; omega))) rfl (by decide) (gsz hsz (by decide)) lay_190 rfl rfl (Nat.le_of_ble_eq_true rfl) ⟨Nat.le_of_ble_eq_true rfl, Nat.le_of_ble_eq_true rfl⟩ rfl rfl dX12_factor_121 rfl (fun M412 P413 => ?_)
          obtain ⟨IM412, CM412, FM412, xM412⟩ := P413
          obtain ⟨v414, hv414, rv414⟩ := gRd IM412 (by decide) (gsz hsz (by decide)) rc_190_12.1
          refine g_aload_n (n := 125) X 2 dX12_factor_124 rfl rfl rfl ?_
          refine g_dup (n := 126) X dX12_factor_125 rfl rfl ?_
          refine gg_12_14 (n := 129) (z := v2 + 1) X (by decide) (gsz hsz (by decide)) lay_190 kw_6_40 dX12_factor_126 rfl ((gFr.at FM412 rc_190_14.2.2 rfl).trans ((congrFun (congrFun e408 _) _).trans ((gset_ne (by omega)).trans ((congrFun (congrFun e405 _) _).trans (gset_eq _ _ _ _))))) ?_
          refine g_iconst (n := 130) X dX12_factor_129 rfl ?_
          refine g_isub (n := 131) (z := v2) X dX12_factor_130 (by omega) rfl ?_
          refine gp_12_14 (n := 134) X (by decide) (gsz hsz (by decide)) lay_190 kw_6_40 dX12_factor_131 rfl ?_
          refine G.nm (fun M415 e416 => ?_)
          have IM415 : gI sz M415 := gI.set IM412 rc_190_14.1 (by omega) e416
          have CM415 : gC sz M415 := gC.set CM412 rc_190_14.2.1 e416
          refine g_iload_n (n := 135) X 0 dX12_factor_134 rfl rfl rfl ?_
          exact hq _ _ _ _ dX12_factor_135 (by omega) ⟨by omega, IM415, CM415, (gFr.s (gFr.c (gFr.s (gFr.s (gFr.s gFr.rf e403 rc_190_13.2.2 rfl) e405 rc_190_14.2.2 rfl) e408 rc_190_12.2.2 rfl) FM412 rfl) e416 rc_190_14.2.2 rfl), by have q12 := ((congrFun (congrFun e416 _) _).trans ((gset_ne (by omega)).trans hv414)); have q14 := ((congrFun (congrFun e416 _) _).trans (gset_eq _ _ _ _)); omega⟩
  · refine g_iconst (n := 8) X dX12_factor_7 rfl ?_
    exact hq _ _ _ _ dX12_factor_8 (by omega) ⟨by omega, I, C, gFr.rf, by have q12 := hv1; have q14 := hv2; omega⟩
theorem dX12_every_0 : decode cX12_every 0 = .ok (.aload_n 0, 1) := dc_42 (by decide +kernel)
theorem dX12_every_1 : decode cX12_every 1 = .ok (.invokevirtual 189, 3) := dc_182 0 189 (by decide +kernel)
theorem dX12_every_4 : decode cX12_every 4 = .ok (.istore_n 1, 1) := dc_60 (by decide +kernel)
theorem dX12_every_5 : decode cX12_every 5 = .ok (.aload_n 0, 1) := dc_42 (by decide +kernel)
theorem dX12_every_6 : decode cX12_every 6 = .ok (.getfield 135, 3) := dc_180 0 135 (by decide +kernel)
theorem dX12_every_9 : decode cX12_every 9 = .ok (.ifCond .ne 44, 3) := dc_154 0 44 44 (by decide +kernel)
theorem dX12_every_53 : decode cX12_every 53 = .ok (.iload_n 1, 1) := dc_27 (by decide +kernel)
theorem dX12_every_54 : decode cX12_every 54 = .ok (.ireturn, 1) := dc_172 (by decide +kernel)
theorem dX12_every_12 : decode cX12_every 12 = .ok (.aload_n 0, 1) := dc_42 (by decide +kernel)
theorem dX12_every_13 : decode cX12_every 13 = .ok (.invokevirtual 139, 3) := dc_182 0 139 (by decide +kernel)
theorem dX12_every_16 : decode cX12_every 16 = .ok (.bipush 38, 2) := dc_16 38 38 (by decide +kernel)
theorem dX12_every_18 : decode cX12_every 18 = .ok (.if_icmp .ne 35, 3) := dc_160 0 35 35 (by decide +kernel)
theorem dX12_every_21 : decode cX12_every 21 = .ok (.aload_n 0, 1) := dc_42 (by decide +kernel)
theorem dX12_every_22 : decode cX12_every 22 = .ok (.dup, 1) := dc_89 (by decide +kernel)
theorem dX12_every_23 : decode cX12_every 23 = .ok (.getfield 129, 3) := dc_180 0 129 (by decide +kernel)
theorem dX12_every_26 : decode cX12_every 26 = .ok (.iconst 1, 1) := dc_4 (by decide +kernel)
theorem dX12_every_27 : decode cX12_every 27 = .ok (.iadd, 1) := dc_96 (by decide +kernel)
theorem dX12_every_28 : decode cX12_every 28 = .ok (.putfield 129, 3) := dc_181 0 129 (by decide +kernel)
theorem dX12_every_31 : decode cX12_every 31 = .ok (.aload_n 0, 1) := dc_42 (by decide +kernel)
theorem dX12_every_32 : decode cX12_every 32 = .ok (.invokevirtual 189, 3) := dc_182 0 189 (by decide +kernel)
theorem dX12_every_35 : decode cX12_every 35 = .ok (.istore_n 2, 1) := dc_61 (by decide +kernel)
theorem dX12_every_36 : decode cX12_every 36 = .ok (.iload_n 1, 1) := dc_27 (by decide +kernel)
theorem dX12_every_37 : decode cX12_every 37 = .ok (.ifCond .eq 11, 3) := dc_153 0 11 11 (by decide +kernel)
theorem dX12_every_48 : decode cX12_every 48 = .ok (.iconst 0, 1) := dc_3 (by decide +kernel)
theorem dX12_every_49 : decode cX12_every 49 = .ok (.istore_n 1, 1) := dc_60 (by decide +kernel)
theorem dX12_every_50 : decode cX12_every 50 = .ok (.goto (-45), 3) := dc_167 255 211 (-45) (by decide +kernel)
theorem dX12_every_40 : decode cX12_every 40 = .ok (.iload_n 2, 1) := dc_28 (by decide +kernel)
theorem dX12_every_41 : decode cX12_every 41 = .ok (.ifCond .eq 7, 3) := dc_153 0 7 7 (by decide +kernel)
theorem dX12_every_44 : decode cX12_every 44 = .ok (.iconst 1, 1) := dc_4 (by decide +kernel)
theorem dX12_every_45 : decode cX12_every 45 = .ok (.goto 4, 3) := dc_167 0 4 4 (by decide +kernel)
set_option maxRecDepth 100000 in
set_option maxHeartbeats 4000000 in
theorem s_X12_everyR {l : Launch} {n0 : Nat} {D : va_G} {cA : Nat → ClassId} {M : gM}  {sz : Nat} (hsz : 206 ≤ sz) (I : gI sz M) (C : gC sz M) (W : gW 191 M) (hk : M 190 15 = -1 ∨ M 190 15 < M 191 1) (ho : 0 ≤ M 190 14 ∧ M 190 14 ≤ 6) (d : Nat) (hd : 6 ≤ M 190 14 + (d : Int)) (hfa : (∀ M : gM, gI sz M → gC sz M → gW 191 M → (M 190 15 = -1 ∨ M 190 15 < M 191 1) → 0 ≤ M 190 14 ∧ M 190 14 ≤ 6 → 6 ≤ M 190 14 + (d : Int) → Met l yX12_factor (gWsOf yX12_factor cX12_factor 5 (Option.some Jvm.ClassFile.FieldType.boolean)) (RF d) (gPc n0 D cA [gA n0 190] M sz) (gQi n0 D cA sz (fun z M1 => (0 ≤ z ∧ z ≤ 1) ∧ gI sz M1 ∧ gC sz M1 ∧ gFr 2475881517416798299143274496 M M1 ∧ (M 190 12 ≤ M1 190 12 ∧ M1 190 14 = M 190 14))) 0 0 (fun q => n0 ≤ q))) : Met l yX12_every (gWsOf yX12_every cX12_every 3 (Option.some Jvm.ClassFile.FieldType.boolean)) (RE d) (gPc n0 D cA [gA n0 190] M sz) (gQi n0 D cA sz (fun z M1 => (0 ≤ z ∧ z ≤ 1) ∧ gI sz M1 ∧ gC sz M1 ∧ gFr 2475881517416798299143274496 M M1 ∧ (M 190 12 ≤ M1 190 12 ∧ M1 190 14 = M 190 14))) 0 0 (fun q => n0 ≤ q) := by
  refine gMetZ [gA n0 190] (by decide) (Nat.le_of_ble_eq_true rfl) ⟨rfl, rfl⟩ ?_
  intro p e s m args below meth cd Q X hq
  have X : gCx p s m args meth cd n0 D cA "ParishUnionModel" cX12_every 3 := X
  show G p l e (RE d) s m args below meth cd n0 D cA 3 Q 0 0 M sz 0 [(0, gA n0 190)] []
  obtain ⟨v1, hv1, rv1⟩ := gRd I (by decide) (gsz hsz (by decide)) rc_190_12.1
  obtain ⟨v2, hv2, rv2⟩ := gRd I (by decide) (gsz hsz (by decide)) rc_190_14.1
  obtain ⟨v3, hv3, rv3⟩ := gRd I (by decide) (gsz hsz (by decide)) rc_190_15.1
  obtain ⟨v4, hv4, rv4⟩ := gRd I (by decide) (gsz hsz (by decide)) (rs_PERS (k := 1) (by omega)).1
  refine g_aload_n (n := 1) X 0 dX12_every_0 rfl rfl rfl ?_
  refine g_callVi (n := 4) (As := []) (rest := []) (cs1 := 0) (ss1 := 0) X (hfa M I C W (by have q1 := hv3; have q2 := hv4; omega) (by have q14 := hv2; omega) (by have q14 := hv2; omega)) okX12_factor kw_7_54 ⟨kw_7_56, kw_0_65⟩ ⟨rfl, rfl⟩ (by first | exact ⟨Nat.le_of_ble_eq_true rfl, Nat.le_of_ble_eq_true rfl⟩ | (refine ⟨?_, ?_⟩ <;> (simp only [RF, RE, RO, R_X12_here, R_X12_must, R_X12_number, R_X12_letter, R_X12_stands, R_X12_isAtOwn]; omega))) rfl (by decide) (gsz hsz (by decide)) lay_190 rfl rfl (Nat.le_of_ble_eq_true rfl) ⟨Nat.le_of_ble_eq_true rfl, Nat.le_of_ble_eq_true rfl⟩ rfl rfl dX12_every_1 rfl (fun v5 M6 P7 => ?_)
  obtain ⟨rv5, IM6, CM6, FM6, xM6⟩ := P7
  obtain ⟨v8, hv8, rv8⟩ := gRd IM6 (by decide) (gsz hsz (by decide)) rc_190_12.1
  refine g_istore_n (n := 5) (L' := [(1, gJ v5), (0, gA n0 190)]) X dX12_every_4 rfl (by decide) rfl rfl ?_
  have j11 : ∀ (N27 : Nat) (v9 : Int) (M10 : gM) , (0 ≤ v9 ∧ v9 ≤ 1) → gI sz M10 → gC sz M10 → gFr 2475881517416798299143274496 M6 M10 → (M10 190 14 = M 190 14) → (M 190 12 ≤ M10 190 12) → (150 - M10 190 12).toNat < N27 → G p l e (RE d) s m args below meth cd n0 D cA 3 Q 0 0 M10 sz 5 [(0, gA n0 190), (1, gJ v9)] [] := by
    intro N27; induction N27 with
    | zero => intro v9 M10 rv9 IM10 CM10 FM10 ho5 hs5 hm29; exfalso; omega
    | succ N27 ih28 =>
      intro v9 M10 rv9 IM10 CM10 FM10 ho5 hs5 hm29
      refine g_aload_n (n := 6) X 0 dX12_every_5 rfl rfl rfl ?_
      obtain ⟨v30, hv30, rv30⟩ := gRd IM10 (by decide) (gsz hsz (by decide)) rc_190_13.1
      refine gg_12_13 (n := 9) (z := v30) X (by decide) (gsz hsz (by decide)) lay_190 kw_6_39 dX12_every_6 rfl hv30 ?_
      refine g_if_ne (n := 12) (tgt := 53) X dX12_every_9 (by decide) (by omega) rfl (fun c31 => ?_) (fun c31 => ?_)
      · refine g_iload_n (n := 54) X 1 dX12_every_53 rfl rfl rfl ?_
        exact hq _ _ _ _ dX12_every_54 (by omega) ⟨by omega, IM10, CM10, (gFr.c (gFr.c gFr.rf FM6 rfl) FM10 rfl), by have q14 := (ho5.trans hv2); omega⟩
      · refine g_aload_n (n := 13) X 0 dX12_every_12 rfl rfl rfl ?_
        refine g_callVi (n := 16) (As := []) (rest := []) (cs1 := 0) (ss1 := 0) X (s_X12_here  hsz IM10 CM10 ) okX12_here kw_7_26 ⟨kw_7_28, kw_0_58⟩ ⟨rfl, rfl⟩ (by first | exact ⟨Nat.le_of_ble_eq_true rfl, Nat.le_of_ble_eq_true rfl⟩ | (refine ⟨?_, ?_⟩ <;> (simp only [RF, RE, RO, R_X12_here, R_X12_must, R_X12_number, R_X12_letter, R_X12_stands, R_X12_isAtOwn]; omega))) rfl (by decide) (gsz hsz (by decide)) lay_190 rfl rfl (Nat.le_of_ble_eq_true rfl) ⟨Nat.le_of_ble_eq_true rfl, Nat.le_of_ble_eq_true rfl⟩ rfl rfl dX12_every_13 rfl (fun v32 M33 P34 => ?_)
        obtain ⟨rfl, rv32, xv32⟩ := P34
        refine g_bipush (n := 18) X dX12_every_16 (by decide +kernel) rfl ?_
        refine g_icmp_ne (n := 21) (tgt := 53) X dX12_every_18 (by decide) (by omega) (by omega) rfl (fun c35 => ?_) (fun c35 => ?_)
        · refine g_iload_n (n := 54) X 1 dX12_every_53 rfl rfl rfl ?_
          exact hq _ _ _ _ dX12_every_54 (by omega) ⟨by omega, IM10, CM10, (gFr.c (gFr.c gFr.rf FM6 rfl) FM10 rfl), by have q14 := (ho5.trans hv2); omega⟩
        · refine g_aload_n (n := 22) X 0 dX12_every_21 rfl rfl rfl ?_
          refine g_dup (n := 23) X dX12_every_22 rfl rfl ?_
          obtain ⟨v36, hv36, rv36⟩ := gRd IM10 (by decide) (gsz hsz (by decide)) rc_190_12.1
          refine gg_12_12 (n := 26) (z := v36) X (by decide) (gsz hsz (by decide)) lay_190 kw_6_38 dX12_every_23 rfl hv36 ?_
          refine g_iconst (n := 27) X dX12_every_26 rfl ?_
          refine g_iadd (n := 28) (z := v36 + 1) X dX12_every_27 (by omega) rfl ?_
          refine gp_12_12 (n := 31) X (by decide) (gsz hsz (by decide)) lay_190 kw_6_38 dX12_every_28 rfl ?_
          refine G.nm (fun M37 e38 => ?_)
          have IM37 : gI sz M37 := gI.set IM10 rc_190_12.1 (by omega) e38
          have CM37 : gC sz M37 := gC.set CM10 rc_190_12.2.1 e38
          refine g_aload_n (n := 32) X 0 dX12_every_31 rfl rfl rfl ?_
          have tM37_12 : M37 190 12 = v36 + 1 := ((congrFun (congrFun e38 _) _).trans (gset_eq _ _ _ _))
          have tM37_14 : M37 190 14 = v2 := ((congrFun (congrFun e38 _) _).trans ((gset_ne (by omega)).trans (ho5.trans hv2)))
          refine g_callVi (n := 35) (As := []) (rest := []) (cs1 := 0) (ss1 := 0) X (hfa M37 IM37 CM37 (gW.fr (S := 2475881517416798299143274496) W ⟨sz, hsz, I⟩ (gFr.s (gFr.c (gFr.c gFr.rf FM6 rfl) FM10 rfl) e38 rc_190_12.2.2 rfl) rfl) (by have q1 := ((congrFun (congrFun e38 _) _).trans ((gset_ne (by omega)).trans ((gFr.at FM10 rc_190_15.2.2 rfl).trans ((gFr.at FM6 rc_190_15.2.2 rfl).trans hv3)))); have q2 := ((congrFun (congrFun e38 _) _).trans ((gset_ne (by omega)).trans ((gFr.at FM10 (rs_PERS (k := 1) (by omega)).2.2 rfl).trans ((gFr.at FM6 (rs_PERS (k := 1) (by omega)).2.2 rfl).trans hv4)))); omega) (by have q14 := ((congrFun (congrFun e38 _) _).trans ((gset_ne (by omega)).trans (ho5.trans hv2))); omega) (by have q14 := ((congrFun (congrFun e38 _) _).trans ((gset_ne (by omega)).trans (ho5.trans hv2))); omega)) okX12_factor kw_7_54 ⟨kw_7_56, kw_0_65⟩ ⟨rfl, rfl⟩ (by first | exact ⟨Nat.le_of_ble_eq_true rfl, Nat.le_of_ble_eq_true rfl⟩ | (refine ⟨?_, ?_⟩ <;> (simp only [RF, RE, RO, R_X12_here, R_X12_must, R_X12_number, R_X12_letter, R_X12_stands, R_X12_isAtOwn]; omega))) rfl (by decide) (gsz hsz (by decide)) lay_190 rfl rfl (Nat.le_of_ble_eq_true rfl) ⟨Nat.le_of_ble_eq_true rfl, Nat.le_of_ble_eq_true rfl⟩ rfl rfl dX12_every_32 rfl (fun v39 M40 P41 => ?_)
          obtain ⟨rv39, IM40, CM40, FM40, xM40⟩ := P41
          obtain ⟨v42, hv42, rv42⟩ := gRd IM40 (by decide) (gsz hsz (by decide)) rc_190_12.1
          refine g_istore_n (n := 36) (L' := [(2, gJ v39), (0, gA n0 190), (1, gJ v9)]) X dX12_every_35 rfl (by decide) rfl rfl ?_
          refine g_iload_n (n := 37) X 2 dX12_every_36 rfl rfl rfl ?_
          refine g_if_eq (n := 40) (tgt := 48) X dX12_every_37 (by decide) (by omega) rfl (fun c43 => ?_) (fun c43 => ?_)
          · refine g_iconst (n := 49) X dX12_every_48 rfl ?_
            refine g_istore_n (n := 50) (L' := [(1, gJ 0), (2, gJ v39), (0, gA n0 190)]) X dX12_every_49 rfl (by decide) rfl rfl ?_
            refine g_goto (tgt := 5) X dX12_every_50 (by decide) ?_
            refine G.sub (L' := [(0, gA n0 190), (1, gJ 0)]) [2, 0] rfl ?_
            exact ih28 0 M40 (by omega) IM40 CM40 (gFr.c (gFr.s (gFr.c gFr.rf FM10 rfl) e38 rc_190_12.2.2 rfl) FM40 rfl) (by have h1 := (xM40.2.trans ((congrFun (congrFun e38 _) _).trans ((gset_ne (by omega)).trans (ho5.trans hv2)))); omega) (by have h1 := hv42; omega) (by have q1 := hv42; omega)
          · refine g_iload_n (n := 41) X 0 dX12_every_40 rfl rfl rfl ?_
            refine g_if_eq (n := 44) (tgt := 48) X dX12_every_41 (by decide) (by omega) rfl (fun c44 => ?_) (fun c44 => ?_)
            · refine g_iconst (n := 49) X dX12_every_48 rfl ?_
              refine g_istore_n (n := 50) (L' := [(1, gJ 0), (2, gJ v39), (0, gA n0 190)]) X dX12_every_49 rfl (by decide) rfl rfl ?_
              refine g_goto (tgt := 5) X dX12_every_50 (by decide) ?_
              refine G.sub (L' := [(0, gA n0 190), (1, gJ 0)]) [2, 0] rfl ?_
              exact ih28 0 M40 (by omega) IM40 CM40 (gFr.c (gFr.s (gFr.c gFr.rf FM10 rfl) e38 rc_190_12.2.2 rfl) FM40 rfl) (by have h1 := (xM40.2.trans ((congrFun (congrFun e38 _) _).trans ((gset_ne (by omega)).trans (ho5.trans hv2)))); omega) (by have h1 := hv42; omega) (by have q1 := hv42; omega)
            · refine g_iconst (n := 45) X dX12_every_44 rfl ?_
              refine g_goto (tgt := 49) X dX12_every_45 (by decide) ?_
              refine g_istore_n (n := 50) (L' := [(1, gJ 1), (2, gJ v39), (0, gA n0 190)]) X dX12_every_49 rfl (by decide) rfl rfl ?_
              refine g_goto (tgt := 5) X dX12_every_50 (by decide) ?_
              refine G.sub (L' := [(0, gA n0 190), (1, gJ 1)]) [2, 0] rfl ?_
              exact ih28 1 M40 (by omega) IM40 CM40 (gFr.c (gFr.s (gFr.c gFr.rf FM10 rfl) e38 rc_190_12.2.2 rfl) FM40 rfl) (by have h1 := (xM40.2.trans ((congrFun (congrFun e38 _) _).trans ((gset_ne (by omega)).trans (ho5.trans hv2)))); omega) (by have h1 := hv42; omega) (by have q1 := hv42; omega)
  refine G.sub (L' := [(0, gA n0 190), (1, gJ v5)]) [1, 0] rfl ?_
  exact j11 _ v5 M6 (by omega) IM6 CM6 gFr.rf (by have h1 := (xM6.2.trans hv2); omega) (by have h1 := hv8; omega) (Nat.lt_succ_self _)
theorem dX12_some_0 : decode cX12_some 0 = .ok (.aload_n 0, 1) := dc_42 (by decide +kernel)
theorem dX12_some_1 : decode cX12_some 1 = .ok (.invokevirtual 207, 3) := dc_182 0 207 (by decide +kernel)
theorem kw_7_50 : (Jvm.Cond.methodLink "ParishUnionModel" (207 : Nat) ({ cls := "ParishUnionModel", name := "every", desc := "()Z" } : Jvm.MethodName)) ∈ gT := gT_of (tb_7 _ (List.mem_of_getElem? (i := 50) rfl)) rfl
theorem kw_7_53 : (Jvm.Cond.code ({ cls := "ParishUnionModel", name := "every", desc := "()Z" } : Jvm.MethodName) prog_14_method_45_code (3 : Nat) (Option.some Jvm.ClassFile.FieldType.boolean)) ∈ gT := gT_of (tb_7 _ (List.mem_of_getElem? (i := 53) rfl)) rfl
theorem okX12_every : gQok yX12_every cX12_every 3 (Option.some Jvm.ClassFile.FieldType.boolean) 0 := ⟨kw_7_53, kw_1_13, by decide +kernel, by decide +kernel, by decide +kernel⟩
theorem kw_7_52 : (Jvm.Cond.instanceMethod ({ cls := "ParishUnionModel", name := "every", desc := "()Z" } : Jvm.MethodName)) ∈ gT := gT_of (tb_7 _ (List.mem_of_getElem? (i := 52) rfl)) rfl
theorem kw_0_64 : (Jvm.Cond.selects "ParishUnionModel" ({ cls := "ParishUnionModel", name := "every", desc := "()Z" } : Jvm.MethodName) ({ cls := "ParishUnionModel", name := "every", desc := "()Z" } : Jvm.MethodName)) ∈ gT := gT_of (tb_0 _ (List.mem_of_getElem? (i := 64) rfl)) rfl
theorem dX12_some_4 : decode cX12_some 4 = .ok (.istore_n 1, 1) := dc_60 (by decide +kernel)
theorem dX12_some_5 : decode cX12_some 5 = .ok (.aload_n 0, 1) := dc_42 (by decide +kernel)
theorem dX12_some_6 : decode cX12_some 6 = .ok (.getfield 135, 3) := dc_180 0 135 (by decide +kernel)
theorem dX12_some_9 : decode cX12_some 9 = .ok (.ifCond .ne 44, 3) := dc_154 0 44 44 (by decide +kernel)
theorem dX12_some_53 : decode cX12_some 53 = .ok (.iload_n 1, 1) := dc_27 (by decide +kernel)
theorem dX12_some_54 : decode cX12_some 54 = .ok (.ireturn, 1) := dc_172 (by decide +kernel)
theorem dX12_some_12 : decode cX12_some 12 = .ok (.aload_n 0, 1) := dc_42 (by decide +kernel)
theorem dX12_some_13 : decode cX12_some 13 = .ok (.invokevirtual 139, 3) := dc_182 0 139 (by decide +kernel)
theorem dX12_some_16 : decode cX12_some 16 = .ok (.bipush 124, 2) := dc_16 124 124 (by decide +kernel)
theorem dX12_some_18 : decode cX12_some 18 = .ok (.if_icmp .ne 35, 3) := dc_160 0 35 35 (by decide +kernel)
theorem dX12_some_21 : decode cX12_some 21 = .ok (.aload_n 0, 1) := dc_42 (by decide +kernel)
theorem dX12_some_22 : decode cX12_some 22 = .ok (.dup, 1) := dc_89 (by decide +kernel)
theorem dX12_some_23 : decode cX12_some 23 = .ok (.getfield 129, 3) := dc_180 0 129 (by decide +kernel)
theorem dX12_some_26 : decode cX12_some 26 = .ok (.iconst 1, 1) := dc_4 (by decide +kernel)
theorem dX12_some_27 : decode cX12_some 27 = .ok (.iadd, 1) := dc_96 (by decide +kernel)
theorem dX12_some_28 : decode cX12_some 28 = .ok (.putfield 129, 3) := dc_181 0 129 (by decide +kernel)
theorem dX12_some_31 : decode cX12_some 31 = .ok (.aload_n 0, 1) := dc_42 (by decide +kernel)
theorem dX12_some_32 : decode cX12_some 32 = .ok (.invokevirtual 207, 3) := dc_182 0 207 (by decide +kernel)
theorem dX12_some_35 : decode cX12_some 35 = .ok (.istore_n 2, 1) := dc_61 (by decide +kernel)
theorem dX12_some_36 : decode cX12_some 36 = .ok (.iload_n 1, 1) := dc_27 (by decide +kernel)
theorem dX12_some_37 : decode cX12_some 37 = .ok (.ifCond .ne 7, 3) := dc_154 0 7 7 (by decide +kernel)
theorem dX12_some_44 : decode cX12_some 44 = .ok (.iconst 1, 1) := dc_4 (by decide +kernel)
theorem dX12_some_45 : decode cX12_some 45 = .ok (.goto 4, 3) := dc_167 0 4 4 (by decide +kernel)
theorem dX12_some_49 : decode cX12_some 49 = .ok (.istore_n 1, 1) := dc_60 (by decide +kernel)
theorem dX12_some_50 : decode cX12_some 50 = .ok (.goto (-45), 3) := dc_167 255 211 (-45) (by decide +kernel)
theorem dX12_some_40 : decode cX12_some 40 = .ok (.iload_n 2, 1) := dc_28 (by decide +kernel)
theorem dX12_some_41 : decode cX12_some 41 = .ok (.ifCond .eq 7, 3) := dc_153 0 7 7 (by decide +kernel)
theorem dX12_some_48 : decode cX12_some 48 = .ok (.iconst 0, 1) := dc_3 (by decide +kernel)
set_option maxRecDepth 100000 in
set_option maxHeartbeats 4000000 in
theorem s_X12_someR {l : Launch} {n0 : Nat} {D : va_G} {cA : Nat → ClassId} {M : gM}  {sz : Nat} (hsz : 206 ≤ sz) (I : gI sz M) (C : gC sz M) (W : gW 191 M) (hk : M 190 15 = -1 ∨ M 190 15 < M 191 1) (ho : 0 ≤ M 190 14 ∧ M 190 14 ≤ 6) (d : Nat) (hd : 6 ≤ M 190 14 + (d : Int)) (hev : (∀ M : gM, gI sz M → gC sz M → gW 191 M → (M 190 15 = -1 ∨ M 190 15 < M 191 1) → 0 ≤ M 190 14 ∧ M 190 14 ≤ 6 → 6 ≤ M 190 14 + (d : Int) → Met l yX12_every (gWsOf yX12_every cX12_every 3 (Option.some Jvm.ClassFile.FieldType.boolean)) (RE d) (gPc n0 D cA [gA n0 190] M sz) (gQi n0 D cA sz (fun z M1 => (0 ≤ z ∧ z ≤ 1) ∧ gI sz M1 ∧ gC sz M1 ∧ gFr 2475881517416798299143274496 M M1 ∧ (M 190 12 ≤ M1 190 12 ∧ M1 190 14 = M 190 14))) 0 0 (fun q => n0 ≤ q))) : Met l yX12_some (gWsOf yX12_some cX12_some 3 (Option.some Jvm.ClassFile.FieldType.boolean)) (RO d) (gPc n0 D cA [gA n0 190] M sz) (gQi n0 D cA sz (fun z M1 => (0 ≤ z ∧ z ≤ 1) ∧ gI sz M1 ∧ gC sz M1 ∧ gFr 2475881517416798299143274496 M M1 ∧ (M 190 12 ≤ M1 190 12 ∧ M1 190 14 = M 190 14))) 0 0 (fun q => n0 ≤ q) := by
  refine gMetZ [gA n0 190] (by decide) (Nat.le_of_ble_eq_true rfl) ⟨rfl, rfl⟩ ?_
  intro p e s m args below meth cd Q X hq
  have X : gCx p s m args meth cd n0 D cA "ParishUnionModel" cX12_some 3 := X
  show G p l e (RO d) s m args below meth cd n0 D cA 3 Q 0 0 M sz 0 [(0, gA n0 190)] []
  obtain ⟨v1, hv1, rv1⟩ := gRd I (by decide) (gsz hsz (by decide)) rc_190_12.1
  obtain ⟨v2, hv2, rv2⟩ := gRd I (by decide) (gsz hsz (by decide)) rc_190_14.1
  obtain ⟨v3, hv3, rv3⟩ := gRd I (by decide) (gsz hsz (by decide)) rc_190_15.1
  obtain ⟨v4, hv4, rv4⟩ := gRd I (by decide) (gsz hsz (by decide)) (rs_PERS (k := 1) (by omega)).1
  refine g_aload_n (n := 1) X 0 dX12_some_0 rfl rfl rfl ?_
  refine g_callVi (n := 4) (As := []) (rest := []) (cs1 := 0) (ss1 := 0) X (hev M I C W (by have q1 := hv3; have q2 := hv4; omega) (by have q14 := hv2; omega) (by have q14 := hv2; omega)) okX12_every kw_7_50 ⟨kw_7_52, kw_0_64⟩ ⟨rfl, rfl⟩ (by first | exact ⟨Nat.le_of_ble_eq_true rfl, Nat.le_of_ble_eq_true rfl⟩ | (refine ⟨?_, ?_⟩ <;> (simp only [RF, RE, RO, R_X12_here, R_X12_must, R_X12_number, R_X12_letter, R_X12_stands, R_X12_isAtOwn]; omega))) rfl (by decide) (gsz hsz (by decide)) lay_190 rfl rfl (Nat.le_of_ble_eq_true rfl) ⟨Nat.le_of_ble_eq_true rfl, Nat.le_of_ble_eq_true rfl⟩ rfl rfl dX12_some_1 rfl (fun v5 M6 P7 => ?_)
  obtain ⟨rv5, IM6, CM6, FM6, xM6⟩ := P7
  obtain ⟨v8, hv8, rv8⟩ := gRd IM6 (by decide) (gsz hsz (by decide)) rc_190_12.1
  refine g_istore_n (n := 5) (L' := [(1, gJ v5), (0, gA n0 190)]) X dX12_some_4 rfl (by decide) rfl rfl ?_
  have j11 : ∀ (N27 : Nat) (v9 : Int) (M10 : gM) , (0 ≤ v9 ∧ v9 ≤ 1) → gI sz M10 → gC sz M10 → gFr 2475881517416798299143274496 M6 M10 → (M10 190 14 = M 190 14) → (M 190 12 ≤ M10 190 12) → (150 - M10 190 12).toNat < N27 → G p l e (RO d) s m args below meth cd n0 D cA 3 Q 0 0 M10 sz 5 [(0, gA n0 190), (1, gJ v9)] [] := by
    intro N27; induction N27 with
    | zero => intro v9 M10 rv9 IM10 CM10 FM10 ho5 hs5 hm29; exfalso; omega
    | succ N27 ih28 =>
      intro v9 M10 rv9 IM10 CM10 FM10 ho5 hs5 hm29
      refine g_aload_n (n := 6) X 0 dX12_some_5 rfl rfl rfl ?_
      obtain ⟨v30, hv30, rv30⟩ := gRd IM10 (by decide) (gsz hsz (by decide)) rc_190_13.1
      refine gg_12_13 (n := 9) (z := v30) X (by decide) (gsz hsz (by decide)) lay_190 kw_6_39 dX12_some_6 rfl hv30 ?_
      refine g_if_ne (n := 12) (tgt := 53) X dX12_some_9 (by decide) (by omega) rfl (fun c31 => ?_) (fun c31 => ?_)
      · refine g_iload_n (n := 54) X 1 dX12_some_53 rfl rfl rfl ?_
        exact hq _ _ _ _ dX12_some_54 (by omega) ⟨by omega, IM10, CM10, (gFr.c (gFr.c gFr.rf FM6 rfl) FM10 rfl), by have q14 := (ho5.trans hv2); omega⟩
      · refine g_aload_n (n := 13) X 0 dX12_some_12 rfl rfl rfl ?_
        refine g_callVi (n := 16) (As := []) (rest := []) (cs1 := 0) (ss1 := 0) X (s_X12_here  hsz IM10 CM10 ) okX12_here kw_7_26 ⟨kw_7_28, kw_0_58⟩ ⟨rfl, rfl⟩ (by first | exact ⟨Nat.le_of_ble_eq_true rfl, Nat.le_of_ble_eq_true rfl⟩ | (refine ⟨?_, ?_⟩ <;> (simp only [RF, RE, RO, R_X12_here, R_X12_must, R_X12_number, R_X12_letter, R_X12_stands, R_X12_isAtOwn]; omega))) rfl (by decide) (gsz hsz (by decide)) lay_190 rfl rfl (Nat.le_of_ble_eq_true rfl) ⟨Nat.le_of_ble_eq_true rfl, Nat.le_of_ble_eq_true rfl⟩ rfl rfl dX12_some_13 rfl (fun v32 M33 P34 => ?_)
        obtain ⟨rfl, rv32, xv32⟩ := P34
        refine g_bipush (n := 18) X dX12_some_16 (by decide +kernel) rfl ?_
        refine g_icmp_ne (n := 21) (tgt := 53) X dX12_some_18 (by decide) (by omega) (by omega) rfl (fun c35 => ?_) (fun c35 => ?_)
        · refine g_iload_n (n := 54) X 1 dX12_some_53 rfl rfl rfl ?_
          exact hq _ _ _ _ dX12_some_54 (by omega) ⟨by omega, IM10, CM10, (gFr.c (gFr.c gFr.rf FM6 rfl) FM10 rfl), by have q14 := (ho5.trans hv2); omega⟩
        · refine g_aload_n (n := 22) X 0 dX12_some_21 rfl rfl rfl ?_
          refine g_dup (n := 23) X dX12_some_22 rfl rfl ?_
          obtain ⟨v36, hv36, rv36⟩ := gRd IM10 (by decide) (gsz hsz (by decide)) rc_190_12.1
          refine gg_12_12 (n := 26) (z := v36) X (by decide) (gsz hsz (by decide)) lay_190 kw_6_38 dX12_some_23 rfl hv36 ?_
          refine g_iconst (n := 27) X dX12_some_26 rfl ?_
          refine g_iadd (n := 28) (z := v36 + 1) X dX12_some_27 (by omega) rfl ?_
          refine gp_12_12 (n := 31) X (by decide) (gsz hsz (by decide)) lay_190 kw_6_38 dX12_some_28 rfl ?_
          refine G.nm (fun M37 e38 => ?_)
          have IM37 : gI sz M37 := gI.set IM10 rc_190_12.1 (by omega) e38
          have CM37 : gC sz M37 := gC.set CM10 rc_190_12.2.1 e38
          refine g_aload_n (n := 32) X 0 dX12_some_31 rfl rfl rfl ?_
          have tM37_12 : M37 190 12 = v36 + 1 := ((congrFun (congrFun e38 _) _).trans (gset_eq _ _ _ _))
          have tM37_14 : M37 190 14 = v2 := ((congrFun (congrFun e38 _) _).trans ((gset_ne (by omega)).trans (ho5.trans hv2)))
          refine g_callVi (n := 35) (As := []) (rest := []) (cs1 := 0) (ss1 := 0) X (hev M37 IM37 CM37 (gW.fr (S := 2475881517416798299143274496) W ⟨sz, hsz, I⟩ (gFr.s (gFr.c (gFr.c gFr.rf FM6 rfl) FM10 rfl) e38 rc_190_12.2.2 rfl) rfl) (by have q1 := ((congrFun (congrFun e38 _) _).trans ((gset_ne (by omega)).trans ((gFr.at FM10 rc_190_15.2.2 rfl).trans ((gFr.at FM6 rc_190_15.2.2 rfl).trans hv3)))); have q2 := ((congrFun (congrFun e38 _) _).trans ((gset_ne (by omega)).trans ((gFr.at FM10 (rs_PERS (k := 1) (by omega)).2.2 rfl).trans ((gFr.at FM6 (rs_PERS (k := 1) (by omega)).2.2 rfl).trans hv4)))); omega) (by have q14 := ((congrFun (congrFun e38 _) _).trans ((gset_ne (by omega)).trans (ho5.trans hv2))); omega) (by have q14 := ((congrFun (congrFun e38 _) _).trans ((gset_ne (by omega)).trans (ho5.trans hv2))); omega)) okX12_every kw_7_50 ⟨kw_7_52, kw_0_64⟩ ⟨rfl, rfl⟩ (by first | exact ⟨Nat.le_of_ble_eq_true rfl, Nat.le_of_ble_eq_true rfl⟩ | (refine ⟨?_, ?_⟩ <;> (simp only [RF, RE, RO, R_X12_here, R_X12_must, R_X12_number, R_X12_letter, R_X12_stands, R_X12_isAtOwn]; omega))) rfl (by decide) (gsz hsz (by decide)) lay_190 rfl rfl (Nat.le_of_ble_eq_true rfl) ⟨Nat.le_of_ble_eq_true rfl, Nat.le_of_ble_eq_true rfl⟩ rfl rfl dX12_some_32 rfl (fun v39 M40 P41 => ?_)
          obtain ⟨rv39, IM40, CM40, FM40, xM40⟩ := P41
          obtain ⟨v42, hv42, rv42⟩ := gRd IM40 (by decide) (gsz hsz (by decide)) rc_190_12.1
          refine g_istore_n (n := 36) (L' := [(2, gJ v39), (0, gA n0 190), (1, gJ v9)]) X dX12_some_35 rfl (by decide) rfl rfl ?_
          refine g_iload_n (n := 37) X 2 dX12_some_36 rfl rfl rfl ?_
          refine g_if_ne (n := 40) (tgt := 44) X dX12_some_37 (by decide) (by omega) rfl (fun c43 => ?_) (fun c43 => ?_)
          · refine g_iconst (n := 45) X dX12_some_44 rfl ?_
            refine g_goto (tgt := 49) X dX12_some_45 (by decide) ?_
            refine g_istore_n (n := 50) (L' := [(1, gJ 1), (2, gJ v39), (0, gA n0 190)]) X dX12_some_49 rfl (by decide) rfl rfl ?_
            refine g_goto (tgt := 5) X dX12_some_50 (by decide) ?_
            refine G.sub (L' := [(0, gA n0 190), (1, gJ 1)]) [2, 0] rfl ?_
            exact ih28 1 M40 (by omega) IM40 CM40 (gFr.c (gFr.s (gFr.c gFr.rf FM10 rfl) e38 rc_190_12.2.2 rfl) FM40 rfl) (by have h1 := (xM40.2.trans ((congrFun (congrFun e38 _) _).trans ((gset_ne (by omega)).trans (ho5.trans hv2)))); omega) (by have h1 := hv42; omega) (by have q1 := hv42; omega)
          · refine g_iload_n (n := 41) X 0 dX12_some_40 rfl rfl rfl ?_
            refine g_if_eq (n := 44) (tgt := 48) X dX12_some_41 (by decide) (by omega) rfl (fun c44 => ?_) (fun c44 => ?_)
            · refine g_iconst (n := 49) X dX12_some_48 rfl ?_
              refine g_istore_n (n := 50) (L' := [(1, gJ 0), (2, gJ v39), (0, gA n0 190)]) X dX12_some_49 rfl (by decide) rfl rfl ?_
              refine g_goto (tgt := 5) X dX12_some_50 (by decide) ?_
              refine G.sub (L' := [(0, gA n0 190), (1, gJ 0)]) [2, 0] rfl ?_
              exact ih28 0 M40 (by omega) IM40 CM40 (gFr.c (gFr.s (gFr.c gFr.rf FM10 rfl) e38 rc_190_12.2.2 rfl) FM40 rfl) (by have h1 := (xM40.2.trans ((congrFun (congrFun e38 _) _).trans ((gset_ne (by omega)).trans (ho5.trans hv2)))); omega) (by have h1 := hv42; omega) (by have q1 := hv42; omega)
            · refine g_iconst (n := 45) X dX12_some_44 rfl ?_
              refine g_goto (tgt := 49) X dX12_some_45 (by decide) ?_
              refine g_istore_n (n := 50) (L' := [(1, gJ 1), (2, gJ v39), (0, gA n0 190)]) X dX12_some_49 rfl (by decide) rfl rfl ?_
              refine g_goto (tgt := 5) X dX12_some_50 (by decide) ?_
              refine G.sub (L' := [(0, gA n0 190), (1, gJ 1)]) [2, 0] rfl ?_
              exact ih28 1 M40 (by omega) IM40 CM40 (gFr.c (gFr.s (gFr.c gFr.rf FM10 rfl) e38 rc_190_12.2.2 rfl) FM40 rfl) (by have h1 := (xM40.2.trans ((congrFun (congrFun e38 _) _).trans ((gset_ne (by omega)).trans (ho5.trans hv2)))); omega) (by have h1 := hv42; omega) (by have q1 := hv42; omega)
  refine G.sub (L' := [(0, gA n0 190), (1, gJ v5)]) [1, 0] rfl ?_
  exact j11 _ v5 M6 (by omega) IM6 CM6 gFr.rf (by have h1 := (xM6.2.trans hv2); omega) (by have h1 := hv8; omega) (Nat.lt_succ_self _)
theorem s_X12_parseD {l : Launch} {n0 : Nat} {D : va_G} {cA : Nat → ClassId} {sz : Nat} (hsz : 206 ≤ sz) (d : Nat) : (∀ M : gM, gI sz M → gC sz M → gW 191 M → (M 190 15 = -1 ∨ M 190 15 < M 191 1) → 0 ≤ M 190 14 ∧ M 190 14 ≤ 6 → 6 ≤ M 190 14 + (d : Int) → Met l yX12_factor (gWsOf yX12_factor cX12_factor 5 (Option.some Jvm.ClassFile.FieldType.boolean)) (RF d) (gPc n0 D cA [gA n0 190] M sz) (gQi n0 D cA sz (fun z M1 => (0 ≤ z ∧ z ≤ 1) ∧ gI sz M1 ∧ gC sz M1 ∧ gFr 2475881517416798299143274496 M M1 ∧ (M 190 12 ≤ M1 190 12 ∧ M1 190 14 = M 190 14))) 0 0 (fun q => n0 ≤ q)) ∧ (∀ M : gM, gI sz M → gC sz M → gW 191 M → (M 190 15 = -1 ∨ M 190 15 < M 191 1) → 0 ≤ M 190 14 ∧ M 190 14 ≤ 6 → 6 ≤ M 190 14 + (d : Int) → Met l yX12_some (gWsOf yX12_some cX12_some 3 (Option.some Jvm.ClassFile.FieldType.boolean)) (RO d) (gPc n0 D cA [gA n0 190] M sz) (gQi n0 D cA sz (fun z M1 => (0 ≤ z ∧ z ≤ 1) ∧ gI sz M1 ∧ gC sz M1 ∧ gFr 2475881517416798299143274496 M M1 ∧ (M 190 12 ≤ M1 190 12 ∧ M1 190 14 = M 190 14))) 0 0 (fun q => n0 ≤ q)) := by
  induction d with
  | zero =>
    have h1 : (∀ M : gM, gI sz M → gC sz M → gW 191 M → (M 190 15 = -1 ∨ M 190 15 < M 191 1) → 0 ≤ M 190 14 ∧ M 190 14 ≤ 6 → 6 ≤ M 190 14 + ((0 : Nat) : Int) → Met l yX12_factor (gWsOf yX12_factor cX12_factor 5 (Option.some Jvm.ClassFile.FieldType.boolean)) (RF 0) (gPc n0 D cA [gA n0 190] M sz) (gQi n0 D cA sz (fun z M1 => (0 ≤ z ∧ z ≤ 1) ∧ gI sz M1 ∧ gC sz M1 ∧ gFr 2475881517416798299143274496 M M1 ∧ (M 190 12 ≤ M1 190 12 ∧ M1 190 14 = M 190 14))) 0 0 (fun q => n0 ≤ q)) := fun M I C W hk ho hd => s_X12_factorR hsz I C W hk ho 0 hd (fun d2 h => absurd h (by omega))
    have h2 : (∀ M : gM, gI sz M → gC sz M → gW 191 M → (M 190 15 = -1 ∨ M 190 15 < M 191 1) → 0 ≤ M 190 14 ∧ M 190 14 ≤ 6 → 6 ≤ M 190 14 + ((0 : Nat) : Int) → Met l yX12_every (gWsOf yX12_every cX12_every 3 (Option.some Jvm.ClassFile.FieldType.boolean)) (RE 0) (gPc n0 D cA [gA n0 190] M sz) (gQi n0 D cA sz (fun z M1 => (0 ≤ z ∧ z ≤ 1) ∧ gI sz M1 ∧ gC sz M1 ∧ gFr 2475881517416798299143274496 M M1 ∧ (M 190 12 ≤ M1 190 12 ∧ M1 190 14 = M 190 14))) 0 0 (fun q => n0 ≤ q)) := fun M I C W hk ho hd => s_X12_everyR hsz I C W hk ho 0 hd h1
    exact ⟨h1, fun M I C W hk ho hd => s_X12_someR hsz I C W hk ho 0 hd h2⟩
  | succ d ih =>
    have h1 : (∀ M : gM, gI sz M → gC sz M → gW 191 M → (M 190 15 = -1 ∨ M 190 15 < M 191 1) → 0 ≤ M 190 14 ∧ M 190 14 ≤ 6 → 6 ≤ M 190 14 + ((d + 1 : Nat) : Int) → Met l yX12_factor (gWsOf yX12_factor cX12_factor 5 (Option.some Jvm.ClassFile.FieldType.boolean)) (RF (d + 1)) (gPc n0 D cA [gA n0 190] M sz) (gQi n0 D cA sz (fun z M1 => (0 ≤ z ∧ z ≤ 1) ∧ gI sz M1 ∧ gC sz M1 ∧ gFr 2475881517416798299143274496 M M1 ∧ (M 190 12 ≤ M1 190 12 ∧ M1 190 14 = M 190 14))) 0 0 (fun q => n0 ≤ q)) := fun M I C W hk ho hd => s_X12_factorR hsz I C W hk ho (d + 1) hd (fun d2 h => by cases h; exact ih)
    have h2 : (∀ M : gM, gI sz M → gC sz M → gW 191 M → (M 190 15 = -1 ∨ M 190 15 < M 191 1) → 0 ≤ M 190 14 ∧ M 190 14 ≤ 6 → 6 ≤ M 190 14 + ((d + 1 : Nat) : Int) → Met l yX12_every (gWsOf yX12_every cX12_every 3 (Option.some Jvm.ClassFile.FieldType.boolean)) (RE (d + 1)) (gPc n0 D cA [gA n0 190] M sz) (gQi n0 D cA sz (fun z M1 => (0 ≤ z ∧ z ≤ 1) ∧ gI sz M1 ∧ gC sz M1 ∧ gFr 2475881517416798299143274496 M M1 ∧ (M 190 12 ≤ M1 190 12 ∧ M1 190 14 = M 190 14))) 0 0 (fun q => n0 ≤ q)) := fun M I C W hk ho hd => s_X12_everyR hsz I C W hk ho (d + 1) hd h1
    exact ⟨h1, fun M I C W hk ho hd => s_X12_someR hsz I C W hk ho (d + 1) hd h2⟩
abbrev R_X12_some : Room := { frames := 130, cells := 0, slots := 0, locals := 5560 }
theorem s_X12_some {l : Launch} {n0 : Nat} {D : va_G} {cA : Nat → ClassId} {sz : Nat} (hsz : 206 ≤ sz) (M : gM) (I : gI sz M) (C : gC sz M) (W : gW 191 M) (hk : M 190 15 = -1 ∨ M 190 15 < M 191 1) (ho : 0 ≤ M 190 14 ∧ M 190 14 ≤ 6) (hd : 0 ≤ M 190 14 + (0 : Int)) : Met l yX12_some (gWsOf yX12_some cX12_some 3 (Option.some Jvm.ClassFile.FieldType.boolean)) R_X12_some (gPc n0 D cA [gA n0 190] M sz) (gQi n0 D cA sz (fun z M1 => (0 ≤ z ∧ z ≤ 1) ∧ gI sz M1 ∧ gC sz M1 ∧ gFr 2475881517416798299143274496 M M1 ∧ (M 190 12 ≤ M1 190 12 ∧ M1 190 14 = M 190 14))) 0 0 (fun q => n0 ≤ q) := (s_X12_parseD hsz 6).2 M I C W hk ho (by omega)
