theorem dX12_week_0 : decode cX12_week 0 = .ok (.iload_n 1, 1) := dc_27 (by decide +kernel)
theorem dX12_week_1 : decode cX12_week 1 = .ok (.iconst 1, 1) := dc_4 (by decide +kernel)
theorem dX12_week_2 : decode cX12_week 2 = .ok (.bipush 20, 2) := dc_16 20 20 (by decide +kernel)
theorem dX12_week_4 : decode cX12_week 4 = .ok (.invokestatic 64, 3) := dc_184 0 64 (by decide +kernel)
theorem dX12_week_7 : decode cX12_week 7 = .ok (.ifCond .eq 17, 3) := dc_153 0 17 17 (by decide +kernel)
theorem dX12_week_24 : decode cX12_week 24 = .ok (.bipush (-2), 2) := dc_16 254 (-2) (by decide +kernel)
theorem dX12_week_26 : decode cX12_week 26 = .ok (.ireturn, 1) := dc_172 (by decide +kernel)
theorem dX12_week_10 : decode cX12_week 10 = .ok (.aload_n 0, 1) := dc_42 (by decide +kernel)
theorem dX12_week_11 : decode cX12_week 11 = .ok (.getfield 7, 3) := dc_180 0 7 (by decide +kernel)
theorem dX12_week_14 : decode cX12_week 14 = .ok (.iconst 0, 1) := dc_3 (by decide +kernel)
theorem dX12_week_15 : decode cX12_week 15 = .ok (.iaload, 1) := dc_46 (by decide +kernel)
theorem dX12_week_16 : decode cX12_week 16 = .ok (.iload_n 1, 1) := dc_27 (by decide +kernel)
theorem dX12_week_17 : decode cX12_week 17 = .ok (.iadd, 1) := dc_96 (by decide +kernel)
theorem dX12_week_18 : decode cX12_week 18 = .ok (.sipush 300, 3) := dc_17 1 44 300 (by decide +kernel)
theorem dX12_week_21 : decode cX12_week 21 = .ok (.if_icmp .le 6, 3) := dc_164 0 6 6 (by decide +kernel)
theorem dX12_week_27 : decode cX12_week 27 = .ok (.iconst 0, 1) := dc_3 (by decide +kernel)
theorem dX12_week_28 : decode cX12_week 28 = .ok (.istore_n 2, 1) := dc_61 (by decide +kernel)
theorem dX12_week_29 : decode cX12_week 29 = .ok (.iload_n 2, 1) := dc_28 (by decide +kernel)
theorem dX12_week_30 : decode cX12_week 30 = .ok (.iload_n 1, 1) := dc_27 (by decide +kernel)
theorem dX12_week_31 : decode cX12_week 31 = .ok (.if_icmp .ge 13, 3) := dc_162 0 13 13 (by decide +kernel)
theorem dX12_week_34 : decode cX12_week 34 = .ok (.aload_n 0, 1) := dc_42 (by decide +kernel)
theorem dX12_week_35 : decode cX12_week 35 = .ok (.invokevirtual 272, 3) := dc_182 1 16 (by decide +kernel)
theorem kw_7_142 : (Jvm.Cond.methodLink "ParishUnionModel" (272 : Nat) ({ cls := "ParishUnionModel", name := "goes", desc := "()V" } : Jvm.MethodName)) ∈ gT := gT_of (tb_7 _ (List.mem_of_getElem? (i := 142) rfl)) rfl
theorem kw_7_145 : (Jvm.Cond.code ({ cls := "ParishUnionModel", name := "goes", desc := "()V" } : Jvm.MethodName) prog_14_method_77_code (3 : Nat) (Option.none : Option Jvm.ClassFile.FieldType)) ∈ gT := gT_of (tb_7 _ (List.mem_of_getElem? (i := 145) rfl)) rfl
theorem okX12_goes : gQok yX12_goes cX12_goes 3 (Option.none : Option Jvm.ClassFile.FieldType) 0 := ⟨kw_7_145, kw_1_13, by decide +kernel, by decide +kernel, by decide +kernel⟩
theorem kw_7_144 : (Jvm.Cond.instanceMethod ({ cls := "ParishUnionModel", name := "goes", desc := "()V" } : Jvm.MethodName)) ∈ gT := gT_of (tb_7 _ (List.mem_of_getElem? (i := 144) rfl)) rfl
theorem kw_0_76 : (Jvm.Cond.selects "ParishUnionModel" ({ cls := "ParishUnionModel", name := "goes", desc := "()V" } : Jvm.MethodName) ({ cls := "ParishUnionModel", name := "goes", desc := "()V" } : Jvm.MethodName)) ∈ gT := gT_of (tb_0 _ (List.mem_of_getElem? (i := 76) rfl)) rfl
theorem dX12_week_38 : decode cX12_week 38 = .ok (.iinc 2 1, 3) := dc_132 2 1 1 (by decide +kernel)
theorem dX12_week_41 : decode cX12_week 41 = .ok (.goto (-12), 3) := dc_167 255 244 (-12) (by decide +kernel)
theorem dX12_week_44 : decode cX12_week 44 = .ok (.aload_n 0, 1) := dc_42 (by decide +kernel)
theorem dX12_week_45 : decode cX12_week 45 = .ok (.getfield 7, 3) := dc_180 0 7 (by decide +kernel)
theorem dX12_week_48 : decode cX12_week 48 = .ok (.iconst 0, 1) := dc_3 (by decide +kernel)
theorem dX12_week_49 : decode cX12_week 49 = .ok (.iaload, 1) := dc_46 (by decide +kernel)
theorem dX12_week_50 : decode cX12_week 50 = .ok (.ireturn, 1) := dc_172 (by decide +kernel)
abbrev R_X12_week : Room := { frames := 135, cells := 0, slots := 0, locals := 5672 }
set_option maxRecDepth 100000 in
set_option maxHeartbeats 4000000 in
theorem s_X12_week {l : Launch} {n0 : Nat} {D : va_G} {cA : Nat → ClassId} {M : gM} (a : Int) (r_a : -2147483648 ≤ a ∧ a ≤ 2147483647) {sz : Nat} (hsz : 206 ≤ sz) (I : gI sz M) (C : gC sz M) (W : gW 191 M)  : Met l yX12_week (gWsOf yX12_week cX12_week 3 (Option.some Jvm.ClassFile.FieldType.int)) R_X12_week (gPc n0 D cA [gA n0 190, gJ a] M sz) (gQi n0 D cA sz (fun z M1 => (-2 ≤ z ∧ z ≤ 300) ∧ gI sz M1 ∧ gC sz M1 ∧ gFr 2475884181819525777879728128 M M1 ∧ (gW 191 M1 ∧ ((¬ ((1 ≤ a ∧ a ≤ 20) ∧ M 191 0 + a ≤ 300) ∧ z = -2 ∧ M1 191 0 = M 191 0) ∨ (((1 ≤ a ∧ a ≤ 20) ∧ M 191 0 + a ≤ 300) ∧ z = M 191 0 + a ∧ M1 191 0 = z))))) 0 0 (fun q => n0 ≤ q) := by
  refine gMetI [gA n0 190, gJ a] (by decide) (Nat.le_of_ble_eq_true rfl) ⟨rfl, rfl⟩ ?_
  intro p e s m args below meth cd Q X hq
  have X : gCx p s m args meth cd n0 D cA "ParishUnionModel" cX12_week 3 := X
  show G p l e R_X12_week s m args below meth cd n0 D cA 3 Q 0 0 M sz 0 [(0, gA n0 190), (1, gJ a)] []
  obtain ⟨v1, hv1, rv1⟩ := gRd I (by decide) (gsz hsz (by decide)) (rs_PERS (k := 1) (by omega)).1
  obtain ⟨v2, hv2, rv2⟩ := gRd I (by decide) (gsz hsz (by decide)) (rs_NOW (k := 0) (by omega)).1
  refine g_iload_n (n := 1) X 1 dX12_week_0 rfl rfl rfl ?_
  refine g_iconst (n := 2) X dX12_week_1 rfl ?_
  refine g_bipush (n := 4) X dX12_week_2 (by decide +kernel) rfl ?_
  refine g_callSi (n := 7) (As := [gJ a, gJ 1, gJ 20]) (rest := []) (cs1 := 0) (ss1 := 0) X (s_X12_in a (by omega) 1 (by omega) 20 (by omega) hsz I C ) okX12_in kw_6_106 kw_6_107 ⟨rfl, rfl⟩ ⟨Nat.le_of_ble_eq_true rfl, Nat.le_of_ble_eq_true rfl⟩ rfl rfl (Nat.le_of_ble_eq_true rfl) ⟨Nat.le_of_ble_eq_true rfl, Nat.le_of_ble_eq_true rfl⟩ rfl rfl dX12_week_4 rfl (fun v3 M4 P5 => ?_)
  obtain ⟨rfl, rv3, xv3⟩ := P5
  refine g_if_eq (n := 10) (tgt := 24) X dX12_week_7 (by decide) (by omega) rfl (fun c6 => ?_) (fun c6 => ?_)
  · refine g_bipush (n := 26) X dX12_week_24 (by decide +kernel) rfl ?_
    exact hq _ _ _ _ dX12_week_26 ⟨by omega, I, C, gFr.rf, ⟨W, by have q1 := hv2; omega⟩⟩
  · refine g_aload_n (n := 11) X 0 dX12_week_10 rfl rfl rfl ?_
    refine gg_12_1 (n := 14) (z := 191) X (by decide) (gsz hsz (by decide)) lay_190 kw_6_27 dX12_week_11 rfl (rf_190_1 I (gsz hsz (by decide))) (by decide) ?_
    refine g_iconst (n := 15) X dX12_week_14 rfl ?_
    refine g_iald2 (n := 16) (v := v2) X (by decide) (gsz hsz (by decide)) lay_191 (by omega) (by omega) (by decide) dX12_week_15 rfl hv2 ?_
    refine g_iload_n (n := 17) X 1 dX12_week_16 rfl rfl rfl ?_
    refine g_iadd (n := 18) (z := v2 + a) X dX12_week_17 rfl rfl ?_
    refine g_sipush (n := 21) X dX12_week_18 (by decide +kernel) rfl ?_
    refine g_icmp_le (n := 24) (tgt := 27) X dX12_week_21 (by decide) (by omega) (by omega) rfl (fun c7 => ?_) (fun c7 => ?_)
    · refine g_iconst (n := 28) X dX12_week_27 rfl ?_
      refine g_istore_n (n := 29) (L' := [(2, gJ 0), (0, gA n0 190), (1, gJ a)]) X dX12_week_28 rfl (by decide) rfl rfl ?_
      have j10 : ∀ (N52 : Nat) (v8 : Int) (M9 : gM) , (0 ≤ v8 ∧ v8 ≤ 20) → gI sz M9 → gC sz M9 → gFr 2475884181819525777879728128 M M9 → (gW 191 M9) → (M9 191 0 = M 191 0 + v8) → (v8 ≤ a) → (20 - v8).toNat < N52 → G p l e R_X12_week s m args below meth cd n0 D cA 3 Q 0 0 M9 sz 29 [(0, gA n0 190), (1, gJ a), (2, gJ v8)] [] := by
        intro N52; induction N52 with
        | zero => intro v8 M9 rv8 IM9 CM9 FM9 hW5 hn5 hv5 hm54; exfalso; omega
        | succ N52 ih53 =>
          intro v8 M9 rv8 IM9 CM9 FM9 hW5 hn5 hv5 hm54
          refine g_iload_n (n := 30) X 2 dX12_week_29 rfl rfl rfl ?_
          refine g_iload_n (n := 31) X 1 dX12_week_30 rfl rfl rfl ?_
          refine g_icmp_ge (n := 34) (tgt := 44) X dX12_week_31 (by decide) (by omega) (by omega) rfl (fun c55 => ?_) (fun c55 => ?_)
          · refine g_aload_n (n := 45) X 0 dX12_week_44 rfl rfl rfl ?_
            refine gg_12_1 (n := 48) (z := 191) X (by decide) (gsz hsz (by decide)) lay_190 kw_6_27 dX12_week_45 rfl (rf_190_1 IM9 (gsz hsz (by decide))) (by decide) ?_
            refine g_iconst (n := 49) X dX12_week_48 rfl ?_
            obtain ⟨v56, hv56, rv56⟩ := gRd IM9 (by decide) (gsz hsz (by decide)) (rs_NOW (k := 0) (by omega)).1
            refine g_iald2 (n := 50) (v := v56) X (by decide) (gsz hsz (by decide)) lay_191 (by omega) (by omega) (by decide) dX12_week_49 rfl hv56 ?_
            exact hq _ _ _ _ dX12_week_50 ⟨by omega, IM9, CM9, (gFr.c gFr.rf FM9 rfl), ⟨hW5, by have q1 := hv56; omega⟩⟩
          · refine g_aload_n (n := 35) X 0 dX12_week_34 rfl rfl rfl ?_
            obtain ⟨v57, hv57, rv57⟩ := gRd IM9 (by decide) (gsz hsz (by decide)) (rs_NOW (k := 0) (by omega)).1
            refine g_callVv (n := 38) (As := []) (rest := []) (cs1 := 0) (ss1 := 0) X (s_X12_goes  hsz IM9 CM9 hW5 (by have := hv57; omega)) okX12_goes kw_7_142 ⟨kw_7_144, kw_0_76⟩ ⟨rfl, rfl⟩ ⟨Nat.le_of_ble_eq_true rfl, Nat.le_of_ble_eq_true rfl⟩ rfl (by decide) (gsz hsz (by decide)) lay_190 rfl rfl (Nat.le_of_ble_eq_true rfl) ⟨Nat.le_of_ble_eq_true rfl, Nat.le_of_ble_eq_true rfl⟩ rfl rfl dX12_week_35 rfl (fun M59 P60 => ?_)
            obtain ⟨IM59, CM59, FM59, xM59⟩ := P60
            refine g_iinc (n := 41) (w := v8 + 1) (L' := [(2, gJ (v8 + 1)), (0, gA n0 190), (1, gJ a)]) X 2 dX12_week_38 rfl rfl (by decide) rfl rfl ?_
            refine g_goto (tgt := 29) X dX12_week_41 (by decide) ?_
            refine G.sub (L' := [(0, gA n0 190), (1, gJ a), (2, gJ (v8 + 1))]) [1, 2, 0] rfl ?_
            exact ih53 (v8 + 1) M59 (by omega) IM59 CM59 (gFr.c (gFr.c gFr.rf FM9 rfl) FM59 rfl) xM59.1 (by have q1 := (show M59 191 0 = v57 + 1 from xM59.2.trans (by have q1 := hv57; omega)); omega) (by omega) (by omega)
      refine G.sub (L' := [(0, gA n0 190), (1, gJ a), (2, gJ 0)]) [1, 2, 0] rfl ?_
      exact j10 _ 0 M (by omega) I C gFr.rf W (by have q1 := hv2; omega) (by omega) (Nat.lt_succ_self _)
    · refine g_bipush (n := 26) X dX12_week_24 (by decide +kernel) rfl ?_
      exact hq _ _ _ _ dX12_week_26 ⟨by omega, I, C, gFr.rf, ⟨W, by have q1 := hv2; omega⟩⟩
theorem dX12_winter_0 : decode cX12_winter 0 = .ok (.aload_n 0, 1) := dc_42 (by decide +kernel)
theorem dX12_winter_1 : decode cX12_winter 1 = .ok (.getfield 7, 3) := dc_180 0 7 (by decide +kernel)
theorem dX12_winter_4 : decode cX12_winter 4 = .ok (.iconst 0, 1) := dc_3 (by decide +kernel)
theorem dX12_winter_5 : decode cX12_winter 5 = .ok (.iaload, 1) := dc_46 (by decide +kernel)
theorem dX12_winter_6 : decode cX12_winter 6 = .ok (.istore_n 2, 1) := dc_61 (by decide +kernel)
theorem dX12_winter_7 : decode cX12_winter 7 = .ok (.iconst 0, 1) := dc_3 (by decide +kernel)
theorem dX12_winter_8 : decode cX12_winter 8 = .ok (.istore_n 3, 1) := dc_62 (by decide +kernel)
theorem dX12_winter_9 : decode cX12_winter 9 = .ok (.iload_n 3, 1) := dc_29 (by decide +kernel)
theorem dX12_winter_10 : decode cX12_winter 10 = .ok (.aload_n 0, 1) := dc_42 (by decide +kernel)
theorem dX12_winter_11 : decode cX12_winter 11 = .ok (.getfield 7, 3) := dc_180 0 7 (by decide +kernel)
theorem dX12_winter_14 : decode cX12_winter 14 = .ok (.sipush 2580, 3) := dc_17 10 20 2580 (by decide +kernel)
theorem dX12_winter_17 : decode cX12_winter 17 = .ok (.iload_n 1, 1) := dc_27 (by decide +kernel)
theorem dX12_winter_18 : decode cX12_winter 18 = .ok (.iadd, 1) := dc_96 (by decide +kernel)
theorem dX12_winter_19 : decode cX12_winter 19 = .ok (.iaload, 1) := dc_46 (by decide +kernel)
theorem dX12_winter_20 : decode cX12_winter 20 = .ok (.if_icmp .ge 36, 3) := dc_162 0 36 36 (by decide +kernel)
theorem dX12_winter_56 : decode cX12_winter 56 = .ok (.iconst 0, 1) := dc_3 (by decide +kernel)
theorem dX12_winter_57 : decode cX12_winter 57 = .ok (.istore_n 3, 1) := dc_62 (by decide +kernel)
theorem dX12_winter_58 : decode cX12_winter 58 = .ok (.iload_n 3, 1) := dc_29 (by decide +kernel)
theorem dX12_winter_59 : decode cX12_winter 59 = .ok (.aload_n 0, 1) := dc_42 (by decide +kernel)
theorem dX12_winter_60 : decode cX12_winter 60 = .ok (.getfield 7, 3) := dc_180 0 7 (by decide +kernel)
theorem dX12_winter_63 : decode cX12_winter 63 = .ok (.sipush 2580, 3) := dc_17 10 20 2580 (by decide +kernel)
theorem dX12_winter_66 : decode cX12_winter 66 = .ok (.iload_n 1, 1) := dc_27 (by decide +kernel)
theorem dX12_winter_67 : decode cX12_winter 67 = .ok (.iadd, 1) := dc_96 (by decide +kernel)
theorem dX12_winter_68 : decode cX12_winter 68 = .ok (.iaload, 1) := dc_46 (by decide +kernel)
theorem dX12_winter_69 : decode cX12_winter 69 = .ok (.if_icmp .ge 13, 3) := dc_162 0 13 13 (by decide +kernel)
theorem dX12_winter_82 : decode cX12_winter 82 = .ok (.return_, 1) := dc_177 (by decide +kernel)
theorem dX12_winter_23 : decode cX12_winter 23 = .ok (.aload_n 0, 1) := dc_42 (by decide +kernel)
theorem dX12_winter_24 : decode cX12_winter 24 = .ok (.getfield 7, 3) := dc_180 0 7 (by decide +kernel)
theorem dX12_winter_27 : decode cX12_winter 27 = .ok (.sipush 2800, 3) := dc_17 10 240 2800 (by decide +kernel)
theorem dX12_winter_30 : decode cX12_winter 30 = .ok (.iload_n 2, 1) := dc_28 (by decide +kernel)
theorem dX12_winter_31 : decode cX12_winter 31 = .ok (.iadd, 1) := dc_96 (by decide +kernel)
theorem dX12_winter_32 : decode cX12_winter 32 = .ok (.iload_n 3, 1) := dc_29 (by decide +kernel)
theorem dX12_winter_33 : decode cX12_winter 33 = .ok (.iadd, 1) := dc_96 (by decide +kernel)
theorem dX12_winter_34 : decode cX12_winter 34 = .ok (.aload_n 0, 1) := dc_42 (by decide +kernel)
theorem dX12_winter_35 : decode cX12_winter 35 = .ok (.getfield 7, 3) := dc_180 0 7 (by decide +kernel)
theorem dX12_winter_38 : decode cX12_winter 38 = .ok (.sipush 2584, 3) := dc_17 10 24 2584 (by decide +kernel)
theorem dX12_winter_41 : decode cX12_winter 41 = .ok (.bipush 10, 2) := dc_16 10 10 (by decide +kernel)
theorem dX12_winter_43 : decode cX12_winter 43 = .ok (.iload_n 1, 1) := dc_27 (by decide +kernel)
theorem dX12_winter_44 : decode cX12_winter 44 = .ok (.imul, 1) := dc_104 (by decide +kernel)
theorem dX12_winter_45 : decode cX12_winter 45 = .ok (.iadd, 1) := dc_96 (by decide +kernel)
theorem dX12_winter_46 : decode cX12_winter 46 = .ok (.iload_n 3, 1) := dc_29 (by decide +kernel)
theorem dX12_winter_47 : decode cX12_winter 47 = .ok (.iadd, 1) := dc_96 (by decide +kernel)
theorem dX12_winter_48 : decode cX12_winter 48 = .ok (.iaload, 1) := dc_46 (by decide +kernel)
theorem dX12_winter_49 : decode cX12_winter 49 = .ok (.iastore, 1) := dc_79 (by decide +kernel)
theorem dX12_winter_50 : decode cX12_winter 50 = .ok (.iinc 3 1, 3) := dc_132 3 1 1 (by decide +kernel)
theorem dX12_winter_53 : decode cX12_winter 53 = .ok (.goto (-44), 3) := dc_167 255 212 (-44) (by decide +kernel)
theorem dX12_winter_72 : decode cX12_winter 72 = .ok (.aload_n 0, 1) := dc_42 (by decide +kernel)
theorem dX12_winter_73 : decode cX12_winter 73 = .ok (.invokevirtual 272, 3) := dc_182 1 16 (by decide +kernel)
theorem dX12_winter_76 : decode cX12_winter 76 = .ok (.iinc 3 1, 3) := dc_132 3 1 1 (by decide +kernel)
theorem dX12_winter_79 : decode cX12_winter 79 = .ok (.goto (-21), 3) := dc_167 255 235 (-21) (by decide +kernel)
abbrev R_X12_winter : Room := { frames := 135, cells := 0, slots := 0, locals := 5672 }
set_option maxRecDepth 100000 in
set_option maxHeartbeats 4000000 in
theorem s_X12_winter {l : Launch} {n0 : Nat} {D : va_G} {cA : Nat → ClassId} {M : gM} (a : Int) (r_a : 0 ≤ a ∧ a ≤ 2) {sz : Nat} (hsz : 206 ≤ sz) (I : gI sz M) (C : gC sz M) (W : gW 191 M) (hn : M 191 0 + M 191 (a + 2580) ≤ 300)  : Met l yX12_winter (gWsOf yX12_winter cX12_winter 4 (Option.none : Option Jvm.ClassFile.FieldType)) R_X12_winter (gPc n0 D cA [gA n0 190, gJ a] M sz) (gQv n0 D cA sz (fun M1 => gI sz M1 ∧ gC sz M1 ∧ gFr 2475884182395986530183151616 M M1 ∧ (gW 191 M1))) 0 0 (fun q => n0 ≤ q) := by
  refine gMetV [gA n0 190, gJ a] (by decide) (Nat.le_of_ble_eq_true rfl) ⟨rfl, rfl⟩ ?_
  intro p e s m args below meth cd Q X hq
  have X : gCx p s m args meth cd n0 D cA "ParishUnionModel" cX12_winter 4 := X
  show G p l e R_X12_winter s m args below meth cd n0 D cA 4 Q 0 0 M sz 0 [(0, gA n0 190), (1, gJ a)] []
  obtain ⟨v1, hv1, rv1⟩ := gRd I (by decide) (gsz hsz (by decide)) (rs_PERS (k := 1) (by omega)).1
  obtain ⟨v2, hv2, rv2⟩ := gRd I (by decide) (gsz hsz (by decide)) (rs_NOW (k := 0) (by omega)).1
  obtain ⟨v3, hv3, rv3⟩ := gRd I (by decide) (gsz hsz (by decide)) (rs_FMANY (k := a + 2580) (by omega)).1
  refine g_aload_n (n := 1) X 0 dX12_winter_0 rfl rfl rfl ?_
  refine gg_12_1 (n := 4) (z := 191) X (by decide) (gsz hsz (by decide)) lay_190 kw_6_27 dX12_winter_1 rfl (rf_190_1 I (gsz hsz (by decide))) (by decide) ?_
  refine g_iconst (n := 5) X dX12_winter_4 rfl ?_
  refine g_iald2 (n := 6) (v := v2) X (by decide) (gsz hsz (by decide)) lay_191 (by omega) (by omega) (by decide) dX12_winter_5 rfl hv2 ?_
  refine g_istore_n (n := 7) (L' := [(2, gJ v2), (0, gA n0 190), (1, gJ a)]) X dX12_winter_6 rfl (by decide) rfl rfl ?_
  refine g_iconst (n := 8) X dX12_winter_7 rfl ?_
  refine g_istore_n (n := 9) (L' := [(3, gJ 0), (2, gJ v2), (0, gA n0 190), (1, gJ a)]) X dX12_winter_8 rfl (by decide) rfl rfl ?_
  have j6 : ∀ (N149 : Nat) (v4 : Int) (M5 : gM) , (0 ≤ v4 ∧ v4 ≤ 10) → gI sz M5 → gC sz M5 → gFr 576460752303423488 M M5 → (10 - v4).toNat < N149 → G p l e R_X12_winter s m args below meth cd n0 D cA 4 Q 0 0 M5 sz 9 [(0, gA n0 190), (1, gJ a), (2, gJ v2), (3, gJ v4)] [] := by
    intro N149; induction N149 with
    | zero => intro v4 M5 rv4 IM5 CM5 FM5 hm151; exfalso; omega
    | succ N149 ih150 =>
      intro v4 M5 rv4 IM5 CM5 FM5 hm151
      refine g_iload_n (n := 10) X 3 dX12_winter_9 rfl rfl rfl ?_
      refine g_aload_n (n := 11) X 0 dX12_winter_10 rfl rfl rfl ?_
      refine gg_12_1 (n := 14) (z := 191) X (by decide) (gsz hsz (by decide)) lay_190 kw_6_27 dX12_winter_11 rfl (rf_190_1 IM5 (gsz hsz (by decide))) (by decide) ?_
      refine g_sipush (n := 17) X dX12_winter_14 (by decide +kernel) rfl ?_
      refine g_iload_n (n := 18) X 1 dX12_winter_17 rfl rfl rfl ?_
      refine g_iadd (n := 19) (z := a + 2580) X dX12_winter_18 (by omega) rfl ?_
      refine g_iald2 (n := 20) (v := v3) X (by decide) (gsz hsz (by decide)) lay_191 (by omega) (by omega) (by decide) dX12_winter_19 rfl ((gFr.at FM5 (rs_FMANY (k := a + 2580) (by omega)).2.2 rfl).trans hv3) ?_
      refine g_icmp_ge (n := 23) (tgt := 56) X dX12_winter_20 (by decide) (by omega) (by omega) rfl (fun c152 => ?_) (fun c152 => ?_)
      · refine g_iconst (n := 57) X dX12_winter_56 rfl ?_
        refine g_istore_n (n := 58) (L' := [(3, gJ 0), (0, gA n0 190), (1, gJ a), (2, gJ v2)]) X dX12_winter_57 rfl (by decide) rfl rfl ?_
        have j155 : ∀ (N181 : Nat) (v153 : Int) (M154 : gM) , (0 ≤ v153 ∧ v153 ≤ 10) → gI sz M154 → gC sz M154 → gFr 2475884181819525777879728128 M5 M154 → (gW 191 M154) → (M154 191 0 = M 191 0 + v153) → (10 - v153).toNat < N181 → G p l e R_X12_winter s m args below meth cd n0 D cA 4 Q 0 0 M154 sz 58 [(0, gA n0 190), (1, gJ a), (3, gJ v153)] [] := by
          intro N181; induction N181 with
          | zero => intro v153 M154 rv153 IM154 CM154 FM154 hW5 hn5 hm183; exfalso; omega
          | succ N181 ih182 =>
            intro v153 M154 rv153 IM154 CM154 FM154 hW5 hn5 hm183
            refine g_iload_n (n := 59) X 2 dX12_winter_58 rfl rfl rfl ?_
            refine g_aload_n (n := 60) X 0 dX12_winter_59 rfl rfl rfl ?_
            refine gg_12_1 (n := 63) (z := 191) X (by decide) (gsz hsz (by decide)) lay_190 kw_6_27 dX12_winter_60 rfl (rf_190_1 IM154 (gsz hsz (by decide))) (by decide) ?_
            refine g_sipush (n := 66) X dX12_winter_63 (by decide +kernel) rfl ?_
            refine g_iload_n (n := 67) X 1 dX12_winter_66 rfl rfl rfl ?_
            refine g_iadd (n := 68) (z := a + 2580) X dX12_winter_67 (by omega) rfl ?_
            refine g_iald2 (n := 69) (v := v3) X (by decide) (gsz hsz (by decide)) lay_191 (by omega) (by omega) (by decide) dX12_winter_68 rfl ((gFr.at FM154 (rs_FMANY (k := a + 2580) (by omega)).2.2 rfl).trans ((gFr.at FM5 (rs_FMANY (k := a + 2580) (by omega)).2.2 rfl).trans hv3)) ?_
            refine g_icmp_ge (n := 72) (tgt := 82) X dX12_winter_69 (by decide) (by omega) (by omega) rfl (fun c184 => ?_) (fun c184 => ?_)
            · exact hq _ _ _ dX12_winter_82 ⟨IM154, CM154, (gFr.c (gFr.c gFr.rf FM5 rfl) FM154 rfl), hW5⟩
            · refine g_aload_n (n := 73) X 0 dX12_winter_72 rfl rfl rfl ?_
              obtain ⟨v185, hv185, rv185⟩ := gRd IM154 (by decide) (gsz hsz (by decide)) (rs_NOW (k := 0) (by omega)).1
              refine g_callVv (n := 76) (As := []) (rest := []) (cs1 := 0) (ss1 := 0) X (s_X12_goes  hsz IM154 CM154 hW5 (by have := hv185; omega)) okX12_goes kw_7_142 ⟨kw_7_144, kw_0_76⟩ ⟨rfl, rfl⟩ ⟨Nat.le_of_ble_eq_true rfl, Nat.le_of_ble_eq_true rfl⟩ rfl (by decide) (gsz hsz (by decide)) lay_190 rfl rfl (Nat.le_of_ble_eq_true rfl) ⟨Nat.le_of_ble_eq_true rfl, Nat.le_of_ble_eq_true rfl⟩ rfl rfl dX12_winter_73 rfl (fun M187 P188 => ?_)
              obtain ⟨IM187, CM187, FM187, xM187⟩ := P188
              refine g_iinc (n := 79) (w := v153 + 1) (L' := [(3, gJ (v153 + 1)), (0, gA n0 190), (1, gJ a)]) X 2 dX12_winter_76 rfl rfl (by decide) rfl rfl ?_
              refine g_goto (tgt := 58) X dX12_winter_79 (by decide) ?_
              refine G.sub (L' := [(0, gA n0 190), (1, gJ a), (3, gJ (v153 + 1))]) [1, 2, 0] rfl ?_
              exact ih182 (v153 + 1) M187 (by omega) IM187 CM187 (gFr.c (gFr.c gFr.rf FM154 rfl) FM187 rfl) xM187.1 (by have q1 := (show M187 191 0 = v185 + 1 from xM187.2.trans (by have q1 := hv185; omega)); omega) (by omega)
        refine G.sub (L' := [(0, gA n0 190), (1, gJ a), (3, gJ 0)]) [1, 2, 0] rfl ?_
        exact j155 _ 0 M5 (by omega) IM5 CM5 gFr.rf (gW.fr (S := 576460752303423488) W ⟨sz, hsz, I⟩ (gFr.c gFr.rf FM5 rfl) rfl) (by have q1 := ((gFr.at FM5 (rs_NOW (k := 0) (by omega)).2.2 rfl).trans hv2); omega) (Nat.lt_succ_self _)
      · refine g_aload_n (n := 24) X 0 dX12_winter_23 rfl rfl rfl ?_
        refine gg_12_1 (n := 27) (z := 191) X (by decide) (gsz hsz (by decide)) lay_190 kw_6_27 dX12_winter_24 rfl (rf_190_1 IM5 (gsz hsz (by decide))) (by decide) ?_
        refine g_sipush (n := 30) X dX12_winter_27 (by decide +kernel) rfl ?_
        refine g_iload_n (n := 31) X 2 dX12_winter_30 rfl rfl rfl ?_
        refine g_iadd (n := 32) (z := v2 + 2800) X dX12_winter_31 (by omega) rfl ?_
        refine g_iload_n (n := 33) X 3 dX12_winter_32 rfl rfl rfl ?_
        refine g_iadd (n := 34) (z := (v2 + 2800) + v4) X dX12_winter_33 rfl rfl ?_
        refine g_aload_n (n := 35) X 0 dX12_winter_34 rfl rfl rfl ?_
        refine gg_12_1 (n := 38) (z := 191) X (by decide) (gsz hsz (by decide)) lay_190 kw_6_27 dX12_winter_35 rfl (rf_190_1 IM5 (gsz hsz (by decide))) (by decide) ?_
        refine g_sipush (n := 41) X dX12_winter_38 (by decide +kernel) rfl ?_
        refine g_bipush (n := 43) X dX12_winter_41 (by decide +kernel) rfl ?_
        refine g_iload_n (n := 44) X 1 dX12_winter_43 rfl rfl rfl ?_
        refine g_imul (n := 45) (z := 10 * a) X dX12_winter_44 rfl rfl ?_
        refine g_iadd (n := 46) (z := 2584 + (10 * a)) X dX12_winter_45 rfl rfl ?_
        refine g_iload_n (n := 47) X 3 dX12_winter_46 rfl rfl rfl ?_
        refine g_iadd (n := 48) (z := (2584 + (10 * a)) + v4) X dX12_winter_47 rfl rfl ?_
        obtain ⟨v189, hv189, rv189⟩ := gRd IM5 (by decide) (gsz hsz (by decide)) (rs_FROW (k := (2584 + (10 * a)) + v4) (by omega)).1
        refine g_iald2 (n := 49) (v := v189) X (by decide) (gsz hsz (by decide)) lay_191 (by omega) (by omega) (by decide) dX12_winter_48 rfl hv189 ?_
        refine g_iast (n := 50) X (by decide) (gsz hsz (by decide)) lay_191 (by omega) (by omega) (by decide) dX12_winter_49 rfl ?_
        refine G.nm (fun M190 e191 => ?_)
        have IM190 : gI sz M190 := gI.set IM5 (rs_FROST (k := (v2 + 2800) + v4) (by omega)).1 (by omega) e191
        have CM190 : gC sz M190 := gC.set CM5 (rs_FROST (k := (v2 + 2800) + v4) (by omega)).2.1 e191
        refine g_iinc (n := 53) (w := v4 + 1) (L' := [(3, gJ (v4 + 1)), (0, gA n0 190), (1, gJ a), (2, gJ v2)]) X 3 dX12_winter_50 rfl rfl (by decide) rfl rfl ?_
        refine g_goto (tgt := 9) X dX12_winter_53 (by decide) ?_
        refine G.sub (L' := [(0, gA n0 190), (1, gJ a), (2, gJ v2), (3, gJ (v4 + 1))]) [1, 2, 3, 0] rfl ?_
        exact ih150 (v4 + 1) M190 (by omega) IM190 CM190 (gFr.s (gFr.c gFr.rf FM5 rfl) e191 (rs_FROST (k := (v2 + 2800) + v4) (by omega)).2.2 rfl) (by omega)
  refine G.sub (L' := [(0, gA n0 190), (1, gJ a), (2, gJ v2), (3, gJ 0)]) [2, 3, 1, 0] rfl ?_
  exact j6 _ 0 M (by omega) I C gFr.rf (Nat.lt_succ_self _)
theorem dX12_isWell_0 : decode cX12_isWell 0 = .ok (.aload_n 0, 1) := dc_42 (by decide +kernel)
theorem dX12_isWell_1 : decode cX12_isWell 1 = .ok (.aload_n 0, 1) := dc_42 (by decide +kernel)
theorem dX12_isWell_2 : decode cX12_isWell 2 = .ok (.getfield 13, 3) := dc_180 0 13 (by decide +kernel)
theorem kw_6_28 : (Jvm.Cond.fieldLink "ParishUnionModel" (13 : Nat) "ParishUnionModel" "kept" "[I") ∈ gT := gT_of (tb_6 _ (List.mem_of_getElem? (i := 28) rfl)) rfl
theorem rf_190_2 {sz : Nat} {M : gM} (I : gI sz M) (h : (190 : Int) < (sz : Int)) : M 190 2 = 192 + 1 := gI.rf I (by decide) h (by decide +kernel)
theorem dX12_isWell_5 : decode cX12_isWell 5 = .ok (.aload_n 0, 1) := dc_42 (by decide +kernel)
theorem dX12_isWell_6 : decode cX12_isWell 6 = .ok (.getfield 7, 3) := dc_180 0 7 (by decide +kernel)
theorem dX12_isWell_9 : decode cX12_isWell 9 = .ok (.invokevirtual 296, 3) := dc_182 1 40 (by decide +kernel)
theorem kw_8_13 : (Jvm.Cond.methodLink "ParishUnionModel" (296 : Nat) ({ cls := "ParishUnionModel", name := "keep", desc := "([I[I)V" } : Jvm.MethodName)) ∈ gT := gT_of (tb_8 _ (List.mem_of_getElem? (i := 13) rfl)) rfl
theorem kw_8_16 : (Jvm.Cond.code ({ cls := "ParishUnionModel", name := "keep", desc := "([I[I)V" } : Jvm.MethodName) prog_14_method_96_code (4 : Nat) (Option.none : Option Jvm.ClassFile.FieldType)) ∈ gT := gT_of (tb_8 _ (List.mem_of_getElem? (i := 16) rfl)) rfl
theorem okX12_keep : gQok yX12_keep cX12_keep 4 (Option.none : Option Jvm.ClassFile.FieldType) 2 := ⟨kw_8_16, kw_1_13, by decide +kernel, by decide +kernel, by decide +kernel⟩
theorem kw_8_15 : (Jvm.Cond.instanceMethod ({ cls := "ParishUnionModel", name := "keep", desc := "([I[I)V" } : Jvm.MethodName)) ∈ gT := gT_of (tb_8 _ (List.mem_of_getElem? (i := 15) rfl)) rfl
theorem kw_0_89 : (Jvm.Cond.selects "ParishUnionModel" ({ cls := "ParishUnionModel", name := "keep", desc := "([I[I)V" } : Jvm.MethodName) ({ cls := "ParishUnionModel", name := "keep", desc := "([I[I)V" } : Jvm.MethodName)) ∈ gT := gT_of (tb_0 _ (List.mem_of_getElem? (i := 89) rfl)) rfl
theorem dX12_isWell_12 : decode cX12_isWell 12 = .ok (.aload_n 0, 1) := dc_42 (by decide +kernel)
theorem dX12_isWell_13 : decode cX12_isWell 13 = .ok (.getfield 7, 3) := dc_180 0 7 (by decide +kernel)
theorem dX12_isWell_16 : decode cX12_isWell 16 = .ok (.iconst 0, 1) := dc_3 (by decide +kernel)
theorem dX12_isWell_17 : decode cX12_isWell 17 = .ok (.iaload, 1) := dc_46 (by decide +kernel)
theorem dX12_isWell_18 : decode cX12_isWell 18 = .ok (.istore_n 3, 1) := dc_62 (by decide +kernel)
theorem dX12_isWell_19 : decode cX12_isWell 19 = .ok (.aload_n 0, 1) := dc_42 (by decide +kernel)
theorem dX12_isWell_20 : decode cX12_isWell 20 = .ok (.iload_n 1, 1) := dc_27 (by decide +kernel)
theorem dX12_isWell_21 : decode cX12_isWell 21 = .ok (.invokevirtual 300, 3) := dc_182 1 44 (by decide +kernel)
theorem kw_8_17 : (Jvm.Cond.methodLink "ParishUnionModel" (300 : Nat) ({ cls := "ParishUnionModel", name := "chooses", desc := "(I)V" } : Jvm.MethodName)) ∈ gT := gT_of (tb_8 _ (List.mem_of_getElem? (i := 17) rfl)) rfl
theorem kw_8_20 : (Jvm.Cond.code ({ cls := "ParishUnionModel", name := "chooses", desc := "(I)V" } : Jvm.MethodName) prog_14_method_99_code (5 : Nat) (Option.none : Option Jvm.ClassFile.FieldType)) ∈ gT := gT_of (tb_8 _ (List.mem_of_getElem? (i := 20) rfl)) rfl
theorem okX12_chooses : gQok yX12_chooses cX12_chooses 5 (Option.none : Option Jvm.ClassFile.FieldType) 1 := ⟨kw_8_20, kw_1_13, by decide +kernel, by decide +kernel, by decide +kernel⟩
theorem kw_8_19 : (Jvm.Cond.instanceMethod ({ cls := "ParishUnionModel", name := "chooses", desc := "(I)V" } : Jvm.MethodName)) ∈ gT := gT_of (tb_8 _ (List.mem_of_getElem? (i := 19) rfl)) rfl
theorem kw_0_90 : (Jvm.Cond.selects "ParishUnionModel" ({ cls := "ParishUnionModel", name := "chooses", desc := "(I)V" } : Jvm.MethodName) ({ cls := "ParishUnionModel", name := "chooses", desc := "(I)V" } : Jvm.MethodName)) ∈ gT := gT_of (tb_0 _ (List.mem_of_getElem? (i := 90) rfl)) rfl
theorem dX12_isWell_24 : decode cX12_isWell 24 = .ok (.aload_n 0, 1) := dc_42 (by decide +kernel)
theorem dX12_isWell_25 : decode cX12_isWell 25 = .ok (.iload_n 2, 1) := dc_28 (by decide +kernel)
theorem dX12_isWell_26 : decode cX12_isWell 26 = .ok (.invokevirtual 303, 3) := dc_182 1 47 (by decide +kernel)
theorem kw_8_21 : (Jvm.Cond.methodLink "ParishUnionModel" (303 : Nat) ({ cls := "ParishUnionModel", name := "winter", desc := "(I)V" } : Jvm.MethodName)) ∈ gT := gT_of (tb_8 _ (List.mem_of_getElem? (i := 21) rfl)) rfl
theorem kw_8_24 : (Jvm.Cond.code ({ cls := "ParishUnionModel", name := "winter", desc := "(I)V" } : Jvm.MethodName) prog_14_method_97_code (4 : Nat) (Option.none : Option Jvm.ClassFile.FieldType)) ∈ gT := gT_of (tb_8 _ (List.mem_of_getElem? (i := 24) rfl)) rfl
theorem okX12_winter : gQok yX12_winter cX12_winter 4 (Option.none : Option Jvm.ClassFile.FieldType) 1 := ⟨kw_8_24, kw_1_13, by decide +kernel, by decide +kernel, by decide +kernel⟩
theorem kw_8_23 : (Jvm.Cond.instanceMethod ({ cls := "ParishUnionModel", name := "winter", desc := "(I)V" } : Jvm.MethodName)) ∈ gT := gT_of (tb_8 _ (List.mem_of_getElem? (i := 23) rfl)) rfl
theorem kw_0_91 : (Jvm.Cond.selects "ParishUnionModel" ({ cls := "ParishUnionModel", name := "winter", desc := "(I)V" } : Jvm.MethodName) ({ cls := "ParishUnionModel", name := "winter", desc := "(I)V" } : Jvm.MethodName)) ∈ gT := gT_of (tb_0 _ (List.mem_of_getElem? (i := 91) rfl)) rfl
theorem dX12_isWell_29 : decode cX12_isWell 29 = .ok (.iconst 1, 1) := dc_4 (by decide +kernel)
theorem dX12_isWell_30 : decode cX12_isWell 30 = .ok (.istore 4, 2) := dc_54 4 (by decide +kernel)
theorem dX12_isWell_32 : decode cX12_isWell 32 = .ok (.iload_n 3, 1) := dc_29 (by decide +kernel)
theorem dX12_isWell_33 : decode cX12_isWell 33 = .ok (.istore 5, 2) := dc_54 5 (by decide +kernel)
theorem dX12_isWell_35 : decode cX12_isWell 35 = .ok (.iload 5, 2) := dc_21 5 (by decide +kernel)
theorem dX12_isWell_37 : decode cX12_isWell 37 = .ok (.aload_n 0, 1) := dc_42 (by decide +kernel)
theorem dX12_isWell_38 : decode cX12_isWell 38 = .ok (.getfield 7, 3) := dc_180 0 7 (by decide +kernel)
theorem dX12_isWell_41 : decode cX12_isWell 41 = .ok (.iconst 0, 1) := dc_3 (by decide +kernel)
theorem dX12_isWell_42 : decode cX12_isWell 42 = .ok (.iaload, 1) := dc_46 (by decide +kernel)
theorem dX12_isWell_43 : decode cX12_isWell 43 = .ok (.if_icmp .ge 49, 3) := dc_162 0 49 49 (by decide +kernel)
theorem dX12_isWell_92 : decode cX12_isWell 92 = .ok (.aload_n 0, 1) := dc_42 (by decide +kernel)
theorem dX12_isWell_93 : decode cX12_isWell 93 = .ok (.aload_n 0, 1) := dc_42 (by decide +kernel)
theorem dX12_isWell_94 : decode cX12_isWell 94 = .ok (.getfield 7, 3) := dc_180 0 7 (by decide +kernel)
theorem dX12_isWell_97 : decode cX12_isWell 97 = .ok (.aload_n 0, 1) := dc_42 (by decide +kernel)
theorem dX12_isWell_98 : decode cX12_isWell 98 = .ok (.getfield 13, 3) := dc_180 0 13 (by decide +kernel)
theorem dX12_isWell_101 : decode cX12_isWell 101 = .ok (.invokevirtual 296, 3) := dc_182 1 40 (by decide +kernel)
theorem dX12_isWell_104 : decode cX12_isWell 104 = .ok (.iload 4, 2) := dc_21 4 (by decide +kernel)
theorem dX12_isWell_106 : decode cX12_isWell 106 = .ok (.ireturn, 1) := dc_172 (by decide +kernel)
theorem dX12_isWell_46 : decode cX12_isWell 46 = .ok (.iload 4, 2) := dc_21 4 (by decide +kernel)
theorem dX12_isWell_48 : decode cX12_isWell 48 = .ok (.ifCond .eq 35, 3) := dc_153 0 35 35 (by decide +kernel)
theorem dX12_isWell_51 : decode cX12_isWell 51 = .ok (.aload_n 0, 1) := dc_42 (by decide +kernel)
theorem dX12_isWell_52 : decode cX12_isWell 52 = .ok (.getfield 7, 3) := dc_180 0 7 (by decide +kernel)
theorem dX12_isWell_55 : decode cX12_isWell 55 = .ok (.sipush 3802, 3) := dc_17 14 218 3802 (by decide +kernel)
theorem dX12_isWell_58 : decode cX12_isWell 58 = .ok (.iload 5, 2) := dc_21 5 (by decide +kernel)
theorem dX12_isWell_60 : decode cX12_isWell 60 = .ok (.iadd, 1) := dc_96 (by decide +kernel)
theorem dX12_isWell_61 : decode cX12_isWell 61 = .ok (.iaload, 1) := dc_46 (by decide +kernel)
theorem dX12_isWell_62 : decode cX12_isWell 62 = .ok (.ifCond .ne 21, 3) := dc_154 0 21 21 (by decide +kernel)
theorem dX12_isWell_83 : decode cX12_isWell 83 = .ok (.iconst 0, 1) := dc_3 (by decide +kernel)
theorem dX12_isWell_84 : decode cX12_isWell 84 = .ok (.istore 4, 2) := dc_54 4 (by decide +kernel)
theorem dX12_isWell_86 : decode cX12_isWell 86 = .ok (.iinc 5 1, 3) := dc_132 5 1 1 (by decide +kernel)
theorem dX12_isWell_89 : decode cX12_isWell 89 = .ok (.goto (-54), 3) := dc_167 255 202 (-54) (by decide +kernel)
theorem dX12_isWell_65 : decode cX12_isWell 65 = .ok (.aload_n 0, 1) := dc_42 (by decide +kernel)
theorem dX12_isWell_66 : decode cX12_isWell 66 = .ok (.getfield 7, 3) := dc_180 0 7 (by decide +kernel)
theorem dX12_isWell_69 : decode cX12_isWell 69 = .ok (.sipush 4404, 3) := dc_17 17 52 4404 (by decide +kernel)
theorem dX12_isWell_72 : decode cX12_isWell 72 = .ok (.iload 5, 2) := dc_21 5 (by decide +kernel)
theorem dX12_isWell_74 : decode cX12_isWell 74 = .ok (.iadd, 1) := dc_96 (by decide +kernel)
theorem dX12_isWell_75 : decode cX12_isWell 75 = .ok (.iaload, 1) := dc_46 (by decide +kernel)
theorem dX12_isWell_76 : decode cX12_isWell 76 = .ok (.ifCond .ne 7, 3) := dc_154 0 7 7 (by decide +kernel)
theorem dX12_isWell_79 : decode cX12_isWell 79 = .ok (.iconst 1, 1) := dc_4 (by decide +kernel)
theorem dX12_isWell_80 : decode cX12_isWell 80 = .ok (.goto 4, 3) := dc_167 0 4 4 (by decide +kernel)
abbrev R_X12_isWell : Room := { frames := 136, cells := 0, slots := 0, locals := 5695 }
set_option maxRecDepth 100000 in
set_option maxHeartbeats 4000000 in
theorem s_X12_isWell {l : Launch} {n0 : Nat} {D : va_G} {cA : Nat → ClassId} {M : gM} (a : Int) (r_a : -2147483648 ≤ a ∧ a ≤ 2147483647) (b : Int) (r_b : 0 ≤ b ∧ b ≤ 2) {sz : Nat} (hsz : 206 ≤ sz) (I : gI sz M) (C : gC sz M) (W : gW 191 M) (hn : M 191 0 + M 191 (b + 2580) ≤ 300)  : Met l yX12_isWell (gWsOf yX12_isWell cX12_isWell 6 (Option.some Jvm.ClassFile.FieldType.boolean)) R_X12_isWell (gPc n0 D cA [gA n0 190, gJ a, gJ b] M sz) (gQi n0 D cA sz (fun z M1 => (0 ≤ z ∧ z ≤ 1) ∧ gI sz M1 ∧ gC sz M1 ∧ gFr 3559081726569396693205254144 M M1 ∧ (∀ b : Int, 0 ≤ b → b < 25301 → M1 191 b = M 191 b))) 0 0 (fun q => n0 ≤ q) := by
  refine gMetZ [gA n0 190, gJ a, gJ b] (by decide) (Nat.le_of_ble_eq_true rfl) ⟨rfl, rfl⟩ ?_
  intro p e s m args below meth cd Q X hq
  have X : gCx p s m args meth cd n0 D cA "ParishUnionModel" cX12_isWell 6 := X
  show G p l e R_X12_isWell s m args below meth cd n0 D cA 6 Q 0 0 M sz 0 [(0, gA n0 190), (1, gJ a), (2, gJ b)] []
  obtain ⟨v1, hv1, rv1⟩ := gRd I (by decide) (gsz hsz (by decide)) (rs_PERS (k := 1) (by omega)).1
  obtain ⟨v2, hv2, rv2⟩ := gRd I (by decide) (gsz hsz (by decide)) (rs_NOW (k := 0) (by omega)).1
  obtain ⟨v3, hv3, rv3⟩ := gRd I (by decide) (gsz hsz (by decide)) (rs_FMANY (k := b + 2580) (by omega)).1
  refine g_aload_n (n := 1) X 0 dX12_isWell_0 rfl rfl rfl ?_
  refine g_aload_n (n := 2) X 0 dX12_isWell_1 rfl rfl rfl ?_
  refine gg_12_2 (n := 5) (z := 192) X (by decide) (gsz hsz (by decide)) lay_190 kw_6_28 dX12_isWell_2 rfl (rf_190_2 I (gsz hsz (by decide))) (by decide) ?_
  refine g_aload_n (n := 6) X 0 dX12_isWell_5 rfl rfl rfl ?_
  refine gg_12_1 (n := 9) (z := 191) X (by decide) (gsz hsz (by decide)) lay_190 kw_6_27 dX12_isWell_6 rfl (rf_190_1 I (gsz hsz (by decide))) (by decide) ?_
  refine g_callVv (n := 12) (As := [gA n0 192, gA n0 191]) (rest := []) (cs1 := 0) (ss1 := 0) X (s_X12_keep_192_191 hsz I C) okX12_keep kw_8_13 ⟨kw_8_15, kw_0_89⟩ ⟨rfl, rfl⟩ ⟨Nat.le_of_ble_eq_true rfl, Nat.le_of_ble_eq_true rfl⟩ rfl (by decide) (gsz hsz (by decide)) lay_190 rfl rfl (Nat.le_of_ble_eq_true rfl) ⟨Nat.le_of_ble_eq_true rfl, Nat.le_of_ble_eq_true rfl⟩ rfl rfl dX12_isWell_9 rfl (fun M5 P6 => ?_)
  obtain ⟨IM5, CM5, KM5, EM5⟩ := P6
  have FM5 : gFr 9223372036854775808 M M5 := gFr.obj KM5 (fun b => (congrArg (Nat.testBit 9223372036854775808) (show gG 192 b = 63 from rfl)).trans (by decide))
  refine g_aload_n (n := 13) X 0 dX12_isWell_12 rfl rfl rfl ?_
  refine gg_12_1 (n := 16) (z := 191) X (by decide) (gsz hsz (by decide)) lay_190 kw_6_27 dX12_isWell_13 rfl (rf_190_1 IM5 (gsz hsz (by decide))) (by decide) ?_
  refine g_iconst (n := 17) X dX12_isWell_16 rfl ?_
  refine g_iald2 (n := 18) (v := v2) X (by decide) (gsz hsz (by decide)) lay_191 (by omega) (by omega) (by decide) dX12_isWell_17 rfl ((gFr.at FM5 (rs_NOW (k := 0) (by omega)).2.2 rfl).trans hv2) ?_
  refine g_istore_n (n := 19) (L' := [(3, gJ v2), (0, gA n0 190), (1, gJ a), (2, gJ b)]) X dX12_isWell_18 rfl (by decide) rfl rfl ?_
  refine g_aload_n (n := 20) X 1 dX12_isWell_19 rfl rfl rfl ?_
  refine g_iload_n (n := 21) X 2 dX12_isWell_20 rfl rfl rfl ?_
  refine g_callVv (n := 24) (As := [gJ a]) (rest := []) (cs1 := 0) (ss1 := 0) X (s_X12_chooses a (by omega) hsz IM5 CM5 ) okX12_chooses kw_8_17 ⟨kw_8_19, kw_0_90⟩ ⟨rfl, rfl⟩ ⟨Nat.le_of_ble_eq_true rfl, Nat.le_of_ble_eq_true rfl⟩ rfl (by decide) (gsz hsz (by decide)) lay_190 rfl rfl (Nat.le_of_ble_eq_true rfl) ⟨Nat.le_of_ble_eq_true rfl, Nat.le_of_ble_eq_true rfl⟩ rfl rfl dX12_isWell_21 rfl (fun M8 P9 => ?_)
  obtain ⟨IM8, CM8, FM8⟩ := P9
  refine g_aload_n (n := 25) X 1 dX12_isWell_24 rfl rfl rfl ?_
  refine g_iload_n (n := 26) X 3 dX12_isWell_25 rfl rfl rfl ?_
  refine g_callVv (n := 29) (As := [gJ b]) (rest := []) (cs1 := 0) (ss1 := 0) X (s_X12_winter b (by omega) hsz IM8 CM8 (gW.fr (S := 9223517172389642240) W ⟨sz, hsz, I⟩ (gFr.c (gFr.c gFr.rf FM5 rfl) FM8 rfl) rfl) (by have q0 := ((gFr.at FM8 (rs_NOW (k := 0) (by omega)).2.2 rfl).trans ((gFr.at FM5 (rs_NOW (k := 0) (by omega)).2.2 rfl).trans hv2)); have q1 := ((gFr.at FM8 (rs_FMANY (k := b + 2580) (by omega)).2.2 rfl).trans ((gFr.at FM5 (rs_FMANY (k := b + 2580) (by omega)).2.2 rfl).trans hv3)); omega)) okX12_winter kw_8_21 ⟨kw_8_23, kw_0_91⟩ ⟨rfl, rfl⟩ ⟨Nat.le_of_ble_eq_true rfl, Nat.le_of_ble_eq_true rfl⟩ rfl (by decide) (gsz hsz (by decide)) lay_190 rfl rfl (Nat.le_of_ble_eq_true rfl) ⟨Nat.le_of_ble_eq_true rfl, Nat.le_of_ble_eq_true rfl⟩ rfl rfl dX12_isWell_26 rfl (fun M11 P12 => ?_)
  obtain ⟨IM11, CM11, FM11, xM11⟩ := P12
  refine g_iconst (n := 30) X dX12_isWell_29 rfl ?_
  refine g_istore (n := 32) (L' := [(4, gJ 1), (3, gJ v2), (0, gA n0 190), (1, gJ a), (2, gJ b)]) X dX12_isWell_30 (by decide) rfl rfl ?_
  refine g_iload_n (n := 33) X 1 dX12_isWell_32 rfl rfl rfl ?_
  refine g_istore (n := 35) (L' := [(5, gJ v2), (4, gJ 1), (3, gJ v2), (0, gA n0 190), (1, gJ a), (2, gJ b)]) X dX12_isWell_33 (by decide) rfl rfl ?_
  have j16 : ∀ (N37 : Nat) (v13 v14 : Int) , (0 ≤ v13 ∧ v13 ≤ 1) → (0 ≤ v14 ∧ v14 ≤ 300) → (300 - v14).toNat < N37 → G p l e R_X12_isWell s m args below meth cd n0 D cA 6 Q 0 0 M11 sz 35 [(0, gA n0 190), (4, gJ v13), (5, gJ v14)] [] := by
    intro N37; induction N37 with
    | zero => intro v13 v14 rv13 rv14 hm39; exfalso; omega
    | succ N37 ih38 =>
      intro v13 v14 rv13 rv14 hm39
      refine g_iload (n := 37) X 2 dX12_isWell_35 rfl rfl ?_
      refine g_aload_n (n := 38) X 0 dX12_isWell_37 rfl rfl rfl ?_
      refine gg_12_1 (n := 41) (z := 191) X (by decide) (gsz hsz (by decide)) lay_190 kw_6_27 dX12_isWell_38 rfl (rf_190_1 IM11 (gsz hsz (by decide))) (by decide) ?_
      refine g_iconst (n := 42) X dX12_isWell_41 rfl ?_
      obtain ⟨v40, hv40, rv40⟩ := gRd IM11 (by decide) (gsz hsz (by decide)) (rs_NOW (k := 0) (by omega)).1
      refine g_iald2 (n := 43) (v := v40) X (by decide) (gsz hsz (by decide)) lay_191 (by omega) (by omega) (by decide) dX12_isWell_42 rfl hv40 ?_
      refine g_icmp_ge (n := 46) (tgt := 92) X dX12_isWell_43 (by decide) (by omega) (by omega) rfl (fun c41 => ?_) (fun c41 => ?_)
      · refine g_aload_n (n := 93) X 0 dX12_isWell_92 rfl rfl rfl ?_
        refine g_aload_n (n := 94) X 0 dX12_isWell_93 rfl rfl rfl ?_
        refine gg_12_1 (n := 97) (z := 191) X (by decide) (gsz hsz (by decide)) lay_190 kw_6_27 dX12_isWell_94 rfl (rf_190_1 IM11 (gsz hsz (by decide))) (by decide) ?_
        refine g_aload_n (n := 98) X 0 dX12_isWell_97 rfl rfl rfl ?_
        refine gg_12_2 (n := 101) (z := 192) X (by decide) (gsz hsz (by decide)) lay_190 kw_6_28 dX12_isWell_98 rfl (rf_190_2 IM11 (gsz hsz (by decide))) (by decide) ?_
        refine g_callVv (n := 104) (As := [gA n0 191, gA n0 192]) (rest := []) (cs1 := 0) (ss1 := 0) X (s_X12_keep_191_192 hsz IM11 CM11) okX12_keep kw_8_13 ⟨kw_8_15, kw_0_89⟩ ⟨rfl, rfl⟩ ⟨Nat.le_of_ble_eq_true rfl, Nat.le_of_ble_eq_true rfl⟩ rfl (by decide) (gsz hsz (by decide)) lay_190 rfl rfl (Nat.le_of_ble_eq_true rfl) ⟨Nat.le_of_ble_eq_true rfl, Nat.le_of_ble_eq_true rfl⟩ rfl rfl dX12_isWell_101 rfl (fun M43 P44 => ?_)
        obtain ⟨IM43, CM43, KM43, EM43⟩ := P44
        have FM43 : gFr 1083197543598079743031771136 M11 M43 := gFr.obj KM43 gGsg_all
        have EEM43 : ∀ b : Int, 0 ≤ b → b < 25301 → M43 191 b = M 191 b := fun b h0 h1 => (EM43 b h0 h1).trans ((gFr.at ((gFr.c (gFr.c gFr.rf FM8 rfl) FM11 rfl) : gFr 2475884182396127267671506944 M5 M11) (show gG 192 b = 63 from rfl) rfl).trans (EM5 b h0 h1))
        have WWM43 : gW 191 M43 := gW.eq W I ⟨by decide, gsz hsz (by decide)⟩ (fun _ => rfl) EEM43
        refine g_iload (n := 106) X 1 dX12_isWell_104 rfl rfl ?_
        exact hq _ _ _ _ dX12_isWell_106 (by omega) ⟨by omega, IM43, CM43, (gFr.c (gFr.c (gFr.c (gFr.c gFr.rf FM5 rfl) FM8 rfl) FM11 rfl) FM43 rfl), EEM43⟩
      · refine g_iload (n := 48) X 1 dX12_isWell_46 rfl rfl ?_
        refine g_if_eq (n := 51) (tgt := 83) X dX12_isWell_48 (by decide) (by omega) rfl (fun c45 => ?_) (fun c45 => ?_)
        · refine g_iconst (n := 84) X dX12_isWell_83 rfl ?_
          refine g_istore (n := 86) (L' := [(4, gJ 0), (0, gA n0 190), (5, gJ v14)]) X dX12_isWell_84 (by decide) rfl rfl ?_
          refine g_iinc (n := 89) (w := v14 + 1) (L' := [(5, gJ (v14 + 1)), (4, gJ 0), (0, gA n0 190)]) X 2 dX12_isWell_86 rfl rfl (by decide) rfl rfl ?_
          refine g_goto (tgt := 35) X dX12_isWell_89 (by decide) ?_
          refine G.sub (L' := [(0, gA n0 190), (4, gJ 0), (5, gJ (v14 + 1))]) [2, 1, 0] rfl ?_
          exact ih38 0 (v14 + 1) (by omega) (by omega) (by omega)
        · refine g_aload_n (n := 52) X 0 dX12_isWell_51 rfl rfl rfl ?_
          refine gg_12_1 (n := 55) (z := 191) X (by decide) (gsz hsz (by decide)) lay_190 kw_6_27 dX12_isWell_52 rfl (rf_190_1 IM11 (gsz hsz (by decide))) (by decide) ?_
          refine g_sipush (n := 58) X dX12_isWell_55 (by decide +kernel) rfl ?_
          refine g_iload (n := 60) X 2 dX12_isWell_58 rfl rfl ?_
          refine g_iadd (n := 61) (z := v14 + 3802) X dX12_isWell_60 (by omega) rfl ?_
          obtain ⟨v46, hv46, rv46⟩ := gRd IM11 (by decide) (gsz hsz (by decide)) (rs_G (k := v14 + 3802) (by omega)).1
          refine g_iald2 (n := 62) (v := v46) X (by decide) (gsz hsz (by decide)) lay_191 (by omega) (by omega) (by decide) dX12_isWell_61 rfl hv46 ?_
          refine g_if_ne (n := 65) (tgt := 83) X dX12_isWell_62 (by decide) (by omega) rfl (fun c47 => ?_) (fun c47 => ?_)
          · refine g_iconst (n := 84) X dX12_isWell_83 rfl ?_
            refine g_istore (n := 86) (L' := [(4, gJ 0), (0, gA n0 190), (5, gJ v14)]) X dX12_isWell_84 (by decide) rfl rfl ?_
            refine g_iinc (n := 89) (w := v14 + 1) (L' := [(5, gJ (v14 + 1)), (4, gJ 0), (0, gA n0 190)]) X 2 dX12_isWell_86 rfl rfl (by decide) rfl rfl ?_
            refine g_goto (tgt := 35) X dX12_isWell_89 (by decide) ?_
            refine G.sub (L' := [(0, gA n0 190), (4, gJ 0), (5, gJ (v14 + 1))]) [2, 1, 0] rfl ?_
            exact ih38 0 (v14 + 1) (by omega) (by omega) (by omega)
          · refine g_aload_n (n := 66) X 0 dX12_isWell_65 rfl rfl rfl ?_
            refine gg_12_1 (n := 69) (z := 191) X (by decide) (gsz hsz (by decide)) lay_190 kw_6_27 dX12_isWell_66 rfl (rf_190_1 IM11 (gsz hsz (by decide))) (by decide) ?_
            refine g_sipush (n := 72) X dX12_isWell_69 (by decide +kernel) rfl ?_
            refine g_iload (n := 74) X 2 dX12_isWell_72 rfl rfl ?_
            refine g_iadd (n := 75) (z := v14 + 4404) X dX12_isWell_74 (by omega) rfl ?_
            obtain ⟨v48, hv48, rv48⟩ := gRd IM11 (by decide) (gsz hsz (by decide)) (rs_G (k := v14 + 4404) (by omega)).1
            refine g_iald2 (n := 76) (v := v48) X (by decide) (gsz hsz (by decide)) lay_191 (by omega) (by omega) (by decide) dX12_isWell_75 rfl hv48 ?_
            refine g_if_ne (n := 79) (tgt := 83) X dX12_isWell_76 (by decide) (by omega) rfl (fun c49 => ?_) (fun c49 => ?_)
            · refine g_iconst (n := 84) X dX12_isWell_83 rfl ?_
              refine g_istore (n := 86) (L' := [(4, gJ 0), (0, gA n0 190), (5, gJ v14)]) X dX12_isWell_84 (by decide) rfl rfl ?_
              refine g_iinc (n := 89) (w := v14 + 1) (L' := [(5, gJ (v14 + 1)), (4, gJ 0), (0, gA n0 190)]) X 2 dX12_isWell_86 rfl rfl (by decide) rfl rfl ?_
              refine g_goto (tgt := 35) X dX12_isWell_89 (by decide) ?_
              refine G.sub (L' := [(0, gA n0 190), (4, gJ 0), (5, gJ (v14 + 1))]) [2, 1, 0] rfl ?_
              exact ih38 0 (v14 + 1) (by omega) (by omega) (by omega)
            · refine g_iconst (n := 80) X dX12_isWell_79 rfl ?_
              refine g_goto (tgt := 84) X dX12_isWell_80 (by decide) ?_
              refine g_istore (n := 86) (L' := [(4, gJ 1), (0, gA n0 190), (5, gJ v14)]) X dX12_isWell_84 (by decide) rfl rfl ?_
              refine g_iinc (n := 89) (w := v14 + 1) (L' := [(5, gJ (v14 + 1)), (4, gJ 1), (0, gA n0 190)]) X 2 dX12_isWell_86 rfl rfl (by decide) rfl rfl ?_
              refine g_goto (tgt := 35) X dX12_isWell_89 (by decide) ?_
              refine G.sub (L' := [(0, gA n0 190), (4, gJ 1), (5, gJ (v14 + 1))]) [2, 1, 0] rfl ?_
              exact ih38 1 (v14 + 1) (by omega) (by omega) (by omega)
  refine G.sub (L' := [(0, gA n0 190), (4, gJ 1), (5, gJ v2)]) [3, 1, 0] rfl ?_
  exact j16 _ 1 v2 (by omega) (by omega) (Nat.lt_succ_self _)
