theorem dX0_addClause_0 : decode cX0_addClause 0 = .ok (.aload_n 0, 1) := dc_42 (by decide +kernel)
theorem dX0_addClause_1 : decode cX0_addClause 1 = .ok (.getfield 41, 3) := dc_180 0 41 (by decide +kernel)
theorem kw_2_85 : (Jvm.Cond.fieldLink "ParishUnion$Act" (41 : Nat) "ParishUnion$Act" "clauses" "I") ∈ gT := gT_of (tb_2 _ (List.mem_of_getElem? (i := 85) rfl)) rfl
theorem dX0_addClause_4 : decode cX0_addClause 4 = .ok (.bipush 8, 2) := dc_16 8 8 (by decide +kernel)
theorem dX0_addClause_6 : decode cX0_addClause 6 = .ok (.if_icmp .lt 4, 3) := dc_161 0 4 4 (by decide +kernel)
theorem dX0_addClause_10 : decode cX0_addClause 10 = .ok (.aload_n 0, 1) := dc_42 (by decide +kernel)
theorem dX0_addClause_11 : decode cX0_addClause 11 = .ok (.getfield 19, 3) := dc_180 0 19 (by decide +kernel)
theorem kw_2_75 : (Jvm.Cond.fieldLink "ParishUnion$Act" (19 : Nat) "ParishUnion$Act" "word" "[I") ∈ gT := gT_of (tb_2 _ (List.mem_of_getElem? (i := 75) rfl)) rfl
theorem dX0_addClause_14 : decode cX0_addClause 14 = .ok (.aload_n 0, 1) := dc_42 (by decide +kernel)
theorem dX0_addClause_15 : decode cX0_addClause 15 = .ok (.getfield 41, 3) := dc_180 0 41 (by decide +kernel)
theorem dX0_addClause_18 : decode cX0_addClause 18 = .ok (.iload_n 1, 1) := dc_27 (by decide +kernel)
theorem dX0_addClause_19 : decode cX0_addClause 19 = .ok (.iastore, 1) := dc_79 (by decide +kernel)
theorem dX0_addClause_20 : decode cX0_addClause 20 = .ok (.aload_n 0, 1) := dc_42 (by decide +kernel)
theorem dX0_addClause_21 : decode cX0_addClause 21 = .ok (.getfield 22, 3) := dc_180 0 22 (by decide +kernel)
theorem kw_2_77 : (Jvm.Cond.fieldLink "ParishUnion$Act" (22 : Nat) "ParishUnion$Act" "n" "[I") ∈ gT := gT_of (tb_2 _ (List.mem_of_getElem? (i := 77) rfl)) rfl
theorem dX0_addClause_24 : decode cX0_addClause 24 = .ok (.aload_n 0, 1) := dc_42 (by decide +kernel)
theorem dX0_addClause_25 : decode cX0_addClause 25 = .ok (.getfield 41, 3) := dc_180 0 41 (by decide +kernel)
theorem dX0_addClause_28 : decode cX0_addClause 28 = .ok (.iload_n 2, 1) := dc_28 (by decide +kernel)
theorem dX0_addClause_29 : decode cX0_addClause 29 = .ok (.iastore, 1) := dc_79 (by decide +kernel)
theorem dX0_addClause_30 : decode cX0_addClause 30 = .ok (.aload_n 0, 1) := dc_42 (by decide +kernel)
theorem dX0_addClause_31 : decode cX0_addClause 31 = .ok (.getfield 25, 3) := dc_180 0 25 (by decide +kernel)
theorem kw_2_79 : (Jvm.Cond.fieldLink "ParishUnion$Act" (25 : Nat) "ParishUnion$Act" "place" "[I") ∈ gT := gT_of (tb_2 _ (List.mem_of_getElem? (i := 79) rfl)) rfl
theorem dX0_addClause_34 : decode cX0_addClause 34 = .ok (.aload_n 0, 1) := dc_42 (by decide +kernel)
theorem dX0_addClause_35 : decode cX0_addClause 35 = .ok (.getfield 41, 3) := dc_180 0 41 (by decide +kernel)
theorem dX0_addClause_38 : decode cX0_addClause 38 = .ok (.iload_n 3, 1) := dc_29 (by decide +kernel)
theorem dX0_addClause_39 : decode cX0_addClause 39 = .ok (.iastore, 1) := dc_79 (by decide +kernel)
theorem dX0_addClause_40 : decode cX0_addClause 40 = .ok (.aload_n 0, 1) := dc_42 (by decide +kernel)
theorem dX0_addClause_41 : decode cX0_addClause 41 = .ok (.dup, 1) := dc_89 (by decide +kernel)
theorem dX0_addClause_42 : decode cX0_addClause 42 = .ok (.getfield 41, 3) := dc_180 0 41 (by decide +kernel)
theorem dX0_addClause_45 : decode cX0_addClause 45 = .ok (.iconst 1, 1) := dc_4 (by decide +kernel)
theorem dX0_addClause_46 : decode cX0_addClause 46 = .ok (.iadd, 1) := dc_96 (by decide +kernel)
theorem dX0_addClause_47 : decode cX0_addClause 47 = .ok (.putfield 41, 3) := dc_181 0 41 (by decide +kernel)
theorem dX0_addClause_50 : decode cX0_addClause 50 = .ok (.iload_n 1, 1) := dc_27 (by decide +kernel)
theorem dX0_addClause_51 : decode cX0_addClause 51 = .ok (.bipush 8, 2) := dc_16 8 8 (by decide +kernel)
theorem dX0_addClause_53 : decode cX0_addClause 53 = .ok (.if_icmp .eq 9, 3) := dc_159 0 9 9 (by decide +kernel)
theorem dX0_addClause_62 : decode cX0_addClause 62 = .ok (.aload_n 0, 1) := dc_42 (by decide +kernel)
theorem dX0_addClause_63 : decode cX0_addClause 63 = .ok (.getfield 15, 3) := dc_180 0 15 (by decide +kernel)
theorem kw_2_73 : (Jvm.Cond.fieldLink "ParishUnion$Act" (15 : Nat) "ParishUnion$Act" "says" "[I") ∈ gT := gT_of (tb_2 _ (List.mem_of_getElem? (i := 73) rfl)) rfl
theorem dX0_addClause_66 : decode cX0_addClause 66 = .ok (.iload_n 1, 1) := dc_27 (by decide +kernel)
theorem dX0_addClause_67 : decode cX0_addClause 67 = .ok (.iconst 0, 1) := dc_3 (by decide +kernel)
theorem dX0_addClause_68 : decode cX0_addClause 68 = .ok (.aload_n 0, 1) := dc_42 (by decide +kernel)
theorem dX0_addClause_69 : decode cX0_addClause 69 = .ok (.getfield 15, 3) := dc_180 0 15 (by decide +kernel)
theorem dX0_addClause_72 : decode cX0_addClause 72 = .ok (.iload_n 1, 1) := dc_27 (by decide +kernel)
theorem dX0_addClause_73 : decode cX0_addClause 73 = .ok (.iaload, 1) := dc_46 (by decide +kernel)
theorem dX0_addClause_74 : decode cX0_addClause 74 = .ok (.invokestatic 48, 3) := dc_184 0 48 (by decide +kernel)
theorem kw_4_67 : (Jvm.Cond.methodLink "ParishUnion$Act" (48 : Nat) ({ cls := "java/lang/Math", name := "max", desc := "(II)I" } : Jvm.MethodName)) ∈ gT := gT_of (tb_4 _ (List.mem_of_getElem? (i := 67) rfl)) rfl
theorem dX0_addClause_77 : decode cX0_addClause 77 = .ok (.iconst 1, 1) := dc_4 (by decide +kernel)
theorem dX0_addClause_78 : decode cX0_addClause 78 = .ok (.iadd, 1) := dc_96 (by decide +kernel)
theorem dX0_addClause_79 : decode cX0_addClause 79 = .ok (.iastore, 1) := dc_79 (by decide +kernel)
theorem dX0_addClause_80 : decode cX0_addClause 80 = .ok (.goto 10, 3) := dc_167 0 10 10 (by decide +kernel)
theorem dX0_addClause_90 : decode cX0_addClause 90 = .ok (.return_, 1) := dc_177 (by decide +kernel)
theorem dX0_addClause_56 : decode cX0_addClause 56 = .ok (.iload_n 1, 1) := dc_27 (by decide +kernel)
theorem dX0_addClause_57 : decode cX0_addClause 57 = .ok (.bipush 9, 2) := dc_16 9 9 (by decide +kernel)
theorem dX0_addClause_59 : decode cX0_addClause 59 = .ok (.if_icmp .ne 24, 3) := dc_160 0 24 24 (by decide +kernel)
theorem dX0_addClause_83 : decode cX0_addClause 83 = .ok (.aload_n 0, 1) := dc_42 (by decide +kernel)
theorem dX0_addClause_84 : decode cX0_addClause 84 = .ok (.getfield 15, 3) := dc_180 0 15 (by decide +kernel)
theorem dX0_addClause_87 : decode cX0_addClause 87 = .ok (.iload_n 1, 1) := dc_27 (by decide +kernel)
theorem dX0_addClause_88 : decode cX0_addClause 88 = .ok (.iload_n 2, 1) := dc_28 (by decide +kernel)
theorem dX0_addClause_89 : decode cX0_addClause 89 = .ok (.iastore, 1) := dc_79 (by decide +kernel)
theorem dX0_addClause_9 : decode cX0_addClause 9 = .ok (.return_, 1) := dc_177 (by decide +kernel)
abbrev R_X0_addClause : Room := { frames := 4, cells := 0, slots := 0, locals := 120 }
set_option maxRecDepth 100000 in
set_option maxHeartbeats 4000000 in
theorem s_X0_addClause {l : Launch} {n0 : Nat} {D : va_G} {cA : Nat → ClassId} {M : gM} (o : Int) (r_o : 87 ≤ o ∧ o ≤ 147 ∧ (o - 87) % 6 = 0) (a : Int) (r_a : 0 ≤ a ∧ a ≤ 9) (b : Int) (r_b : -2147483648 ≤ b ∧ b ≤ 2147483647) (c : Int) (r_c : 0 ≤ c ∧ c ≤ 150) {sz : Nat} (hsz : 206 ≤ sz) (I : gI sz M) (C : gC sz M) (hw : a = 9 → 0 ≤ b ∧ b ≤ 3)  : Met l yX0_addClause (gWsOf yX0_addClause cX0_addClause 4 (Option.none : Option Jvm.ClassFile.FieldType)) R_X0_addClause (gPc n0 D cA [gA n0 o, gJ a, gJ b, gJ c] M sz) (gQv n0 D cA sz (fun M1 => gI sz M1 ∧ gC sz M1 ∧ gFr 256 M M1)) 0 0 (fun q => n0 ≤ q) := by
  refine gMetV [gA n0 o, gJ a, gJ b, gJ c] (by decide) (Nat.le_of_ble_eq_true rfl) ⟨rfl, rfl⟩ ?_
  intro p e s m args below meth cd Q X hq
  have X : gCx p s m args meth cd n0 D cA "ParishUnion$Act" cX0_addClause 4 := X
  show G p l e R_X0_addClause s m args below meth cd n0 D cA 4 Q 0 0 M sz 0 [(0, gA n0 o), (1, gJ a), (2, gJ b), (3, gJ c)] []
  refine g_aload_n (n := 1) X 0 dX0_addClause_0 rfl rfl rfl ?_
  obtain ⟨v1, hv1, rv1⟩ := gRd I (Ao0 r_o) (Aosz hsz r_o) (rA_7 r_o).1
  refine gg_0_7 (n := 4) (z := v1) X (Ao0 r_o) (Aosz hsz r_o) (lay2_A r_o) kw_2_85 dX0_addClause_1 rfl hv1 ?_
  refine g_bipush (n := 6) X dX0_addClause_4 (by decide +kernel) rfl ?_
  refine g_icmp_lt (n := 9) (tgt := 10) X dX0_addClause_6 (by decide) (by omega) (by omega) rfl (fun c2 => ?_) (fun c2 => ?_)
  · refine g_aload_n (n := 11) X 0 dX0_addClause_10 rfl rfl rfl ?_
    refine gg_0_2 (n := 14) (z := o + 3) X (Ao0 r_o) (Aosz hsz r_o) (lay2_A r_o) kw_2_75 dX0_addClause_11 rfl (rfA_2 I hsz r_o) (by omega) ?_
    refine g_aload_n (n := 15) X 0 dX0_addClause_14 rfl rfl rfl ?_
    refine gg_0_7 (n := 18) (z := v1) X (Ao0 r_o) (Aosz hsz r_o) (lay2_A r_o) kw_2_85 dX0_addClause_15 rfl hv1 ?_
    refine g_iload_n (n := 19) X 1 dX0_addClause_18 rfl rfl rfl ?_
    refine g_iast (n := 20) X (A3o0 r_o) (A3osz hsz r_o) (lay2_A3 r_o) (by omega) (by omega) (by decide) dX0_addClause_19 rfl ?_
    refine G.nm (fun M3 e4 => ?_)
    have IM3 : gI sz M3 := gI.set I (rAA_3 r_o v1).1 (by omega) e4
    refine g_aload_n (n := 21) X 0 dX0_addClause_20 rfl rfl rfl ?_
    refine gg_0_3 (n := 24) (z := o + 4) X (Ao0 r_o) (Aosz hsz r_o) (lay2_A r_o) kw_2_77 dX0_addClause_21 rfl (rfA_3 IM3 hsz r_o) (by omega) ?_
    refine g_aload_n (n := 25) X 0 dX0_addClause_24 rfl rfl rfl ?_
    refine gg_0_7 (n := 28) (z := v1) X (Ao0 r_o) (Aosz hsz r_o) (lay2_A r_o) kw_2_85 dX0_addClause_25 rfl ((congrFun (congrFun e4 _) _).trans ((gset_ne (by omega)).trans hv1)) ?_
    refine g_iload_n (n := 29) X 2 dX0_addClause_28 rfl rfl rfl ?_
    refine g_iast (n := 30) X (A4o0 r_o) (A4osz hsz r_o) (lay2_A4 r_o) (by omega) (by omega) (by decide) dX0_addClause_29 rfl ?_
    refine G.nm (fun M5 e6 => ?_)
    have IM5 : gI sz M5 := gI.set IM3 (rAA_4 r_o v1).1 (by omega) e6
    have CM5 : gC sz M5 := gC.act C r_o e4 e6 (by omega)
    refine g_aload_n (n := 31) X 0 dX0_addClause_30 rfl rfl rfl ?_
    refine gg_0_4 (n := 34) (z := o + 5) X (Ao0 r_o) (Aosz hsz r_o) (lay2_A r_o) kw_2_79 dX0_addClause_31 rfl (rfA_4 IM5 hsz r_o) (by omega) ?_
    refine g_aload_n (n := 35) X 0 dX0_addClause_34 rfl rfl rfl ?_
    refine gg_0_7 (n := 38) (z := v1) X (Ao0 r_o) (Aosz hsz r_o) (lay2_A r_o) kw_2_85 dX0_addClause_35 rfl ((congrFun (congrFun e6 _) _).trans ((gset_ne (by omega)).trans ((congrFun (congrFun e4 _) _).trans ((gset_ne (by omega)).trans hv1)))) ?_
    refine g_iload_n (n := 39) X 3 dX0_addClause_38 rfl rfl rfl ?_
    refine g_iast (n := 40) X (A5o0 r_o) (A5osz hsz r_o) (lay2_A5 r_o) (by omega) (by omega) (by decide) dX0_addClause_39 rfl ?_
    refine G.nm (fun M7 e8 => ?_)
    have IM7 : gI sz M7 := gI.set IM5 (rAA_5 r_o v1).1 (by omega) e8
    have CM7 : gC sz M7 := gC.set CM5 (rAA_5 r_o v1).2.1 e8
    refine g_aload_n (n := 41) X 0 dX0_addClause_40 rfl rfl rfl ?_
    refine g_dup (n := 42) X dX0_addClause_41 rfl rfl ?_
    refine gg_0_7 (n := 45) (z := v1) X (Ao0 r_o) (Aosz hsz r_o) (lay2_A r_o) kw_2_85 dX0_addClause_42 rfl ((congrFun (congrFun e8 _) _).trans ((gset_ne (by omega)).trans ((congrFun (congrFun e6 _) _).trans ((gset_ne (by omega)).trans ((congrFun (congrFun e4 _) _).trans ((gset_ne (by omega)).trans hv1)))))) ?_
    refine g_iconst (n := 46) X dX0_addClause_45 rfl ?_
    refine g_iadd (n := 47) (z := v1 + 1) X dX0_addClause_46 (by omega) rfl ?_
    refine gp_0_7 (n := 50) X (Ao0 r_o) (Aosz hsz r_o) (lay2_A r_o) kw_2_85 dX0_addClause_47 rfl ?_
    refine G.nm (fun M9 e10 => ?_)
    have IM9 : gI sz M9 := gI.set IM7 (rA_7 r_o).1 (by omega) e10
    have CM9 : gC sz M9 := gC.set CM7 (rA_7 r_o).2.1 e10
    refine g_iload_n (n := 51) X 1 dX0_addClause_50 rfl rfl rfl ?_
    refine g_bipush (n := 53) X dX0_addClause_51 (by decide +kernel) rfl ?_
    refine g_icmp_eq (n := 56) (tgt := 62) X dX0_addClause_53 (by decide) (by omega) (by omega) rfl (fun c11 => ?_) (fun c11 => ?_)
    · refine g_aload_n (n := 63) X 0 dX0_addClause_62 rfl rfl rfl ?_
      refine gg_0_1 (n := 66) (z := o + 2) X (Ao0 r_o) (Aosz hsz r_o) (lay2_A r_o) kw_2_73 dX0_addClause_63 rfl (rfA_1 IM9 hsz r_o) (by omega) ?_
      refine g_iload_n (n := 67) X 1 dX0_addClause_66 rfl rfl rfl ?_
      refine g_iconst (n := 68) X dX0_addClause_67 rfl ?_
      refine g_aload_n (n := 69) X 0 dX0_addClause_68 rfl rfl rfl ?_
      refine gg_0_1 (n := 72) (z := o + 2) X (Ao0 r_o) (Aosz hsz r_o) (lay2_A r_o) kw_2_73 dX0_addClause_69 rfl (rfA_1 IM9 hsz r_o) (by omega) ?_
      refine g_iload_n (n := 73) X 1 dX0_addClause_72 rfl rfl rfl ?_
      obtain ⟨v12, hv12, rv12⟩ := gRd IM9 (A2o0 r_o) (A2osz hsz r_o) (rAA_2 r_o a).1
      refine g_iald2 (n := 74) (v := v12) X (A2o0 r_o) (A2osz hsz r_o) (lay2_A2 r_o) (by omega) (by omega) (by decide) dX0_addClause_73 rfl hv12 ?_
      refine g_mmax (n := 77) X kw_4_67 kw_3_153 kw_1_14 kw_3_154 (by omega) (by omega) (Nat.le_of_ble_eq_true rfl) (Nat.le_of_ble_eq_true rfl) (Nat.le_of_ble_eq_true rfl) (Nat.le_of_ble_eq_true rfl) dX0_addClause_74 rfl (fun x13 hx13 => ?_)
      have rx13 : 0 ≤ x13 ∧ x13 ≤ 2147483647 := by omega
      refine g_iconst (n := 78) X dX0_addClause_77 rfl ?_
      refine g_iaddA (n := 79) X dX0_addClause_78 rfl (fun v14 rv14 xv14 => ?_)
      clear xv14
      refine g_iast (n := 80) X (A2o0 r_o) (A2osz hsz r_o) (lay2_A2 r_o) (by omega) (by omega) (by decide) dX0_addClause_79 rfl ?_
      refine G.nm (fun M15 e16 => ?_)
      have IM15 : gI sz M15 := gI.set IM9 (rAA_2 r_o a).1 (by omega) e16
      have CM15 : gC sz M15 := gC.set CM9 (rAA_2 r_o a).2.1 e16
      refine g_goto (tgt := 90) X dX0_addClause_80 (by decide) ?_
      exact hq _ _ _ dX0_addClause_90 ⟨IM15, CM15, (gFr.s (gFr.s (gFr.s (gFr.s (gFr.s gFr.rf e4 (rAA_3 r_o v1).2.2 rfl) e6 (rAA_4 r_o v1).2.2 rfl) e8 (rAA_5 r_o v1).2.2 rfl) e10 (rA_7 r_o).2.2 rfl) e16 (rAA_2 r_o a).2.2 rfl)⟩
    · refine g_iload_n (n := 57) X 1 dX0_addClause_56 rfl rfl rfl ?_
      refine g_bipush (n := 59) X dX0_addClause_57 (by decide +kernel) rfl ?_
      refine g_icmp_ne (n := 62) (tgt := 83) X dX0_addClause_59 (by decide) (by omega) (by omega) rfl (fun c17 => ?_) (fun c17 => ?_)
      · refine g_aload_n (n := 84) X 0 dX0_addClause_83 rfl rfl rfl ?_
        refine gg_0_1 (n := 87) (z := o + 2) X (Ao0 r_o) (Aosz hsz r_o) (lay2_A r_o) kw_2_73 dX0_addClause_84 rfl (rfA_1 IM9 hsz r_o) (by omega) ?_
        refine g_iload_n (n := 88) X 1 dX0_addClause_87 rfl rfl rfl ?_
        refine g_iload_n (n := 89) X 2 dX0_addClause_88 rfl rfl rfl ?_
        refine g_iast (n := 90) X (A2o0 r_o) (A2osz hsz r_o) (lay2_A2 r_o) (by omega) (by omega) (by decide) dX0_addClause_89 rfl ?_
        refine G.nm (fun M18 e19 => ?_)
        have IM18 : gI sz M18 := gI.set IM9 (rAA_2 r_o a).1 (by omega) e19
        have CM18 : gC sz M18 := gC.set CM9 (rAA_2 r_o a).2.1 e19
        exact hq _ _ _ dX0_addClause_90 ⟨IM18, CM18, (gFr.s (gFr.s (gFr.s (gFr.s (gFr.s gFr.rf e4 (rAA_3 r_o v1).2.2 rfl) e6 (rAA_4 r_o v1).2.2 rfl) e8 (rAA_5 r_o v1).2.2 rfl) e10 (rA_7 r_o).2.2 rfl) e19 (rAA_2 r_o a).2.2 rfl)⟩
      · refine g_aload_n (n := 63) X 0 dX0_addClause_62 rfl rfl rfl ?_
        refine gg_0_1 (n := 66) (z := o + 2) X (Ao0 r_o) (Aosz hsz r_o) (lay2_A r_o) kw_2_73 dX0_addClause_63 rfl (rfA_1 IM9 hsz r_o) (by omega) ?_
        refine g_iload_n (n := 67) X 1 dX0_addClause_66 rfl rfl rfl ?_
        refine g_iconst (n := 68) X dX0_addClause_67 rfl ?_
        refine g_aload_n (n := 69) X 0 dX0_addClause_68 rfl rfl rfl ?_
        refine gg_0_1 (n := 72) (z := o + 2) X (Ao0 r_o) (Aosz hsz r_o) (lay2_A r_o) kw_2_73 dX0_addClause_69 rfl (rfA_1 IM9 hsz r_o) (by omega) ?_
        refine g_iload_n (n := 73) X 1 dX0_addClause_72 rfl rfl rfl ?_
        obtain ⟨v20, hv20, rv20⟩ := gRd IM9 (A2o0 r_o) (A2osz hsz r_o) (rAA_2 r_o a).1
        refine g_iald2 (n := 74) (v := v20) X (A2o0 r_o) (A2osz hsz r_o) (lay2_A2 r_o) (by omega) (by omega) (by decide) dX0_addClause_73 rfl hv20 ?_
        refine g_mmax (n := 77) X kw_4_67 kw_3_153 kw_1_14 kw_3_154 (by omega) (by omega) (Nat.le_of_ble_eq_true rfl) (Nat.le_of_ble_eq_true rfl) (Nat.le_of_ble_eq_true rfl) (Nat.le_of_ble_eq_true rfl) dX0_addClause_74 rfl (fun x21 hx21 => ?_)
        have rx21 : 0 ≤ x21 ∧ x21 ≤ 2147483647 := by omega
        refine g_iconst (n := 78) X dX0_addClause_77 rfl ?_
        refine g_iaddA (n := 79) X dX0_addClause_78 rfl (fun v22 rv22 xv22 => ?_)
        clear xv22
        refine g_iast (n := 80) X (A2o0 r_o) (A2osz hsz r_o) (lay2_A2 r_o) (by omega) (by omega) (by decide) dX0_addClause_79 rfl ?_
        refine G.nm (fun M23 e24 => ?_)
        have IM23 : gI sz M23 := gI.set IM9 (rAA_2 r_o a).1 (by omega) e24
        have CM23 : gC sz M23 := gC.set CM9 (rAA_2 r_o a).2.1 e24
        refine g_goto (tgt := 90) X dX0_addClause_80 (by decide) ?_
        exact hq _ _ _ dX0_addClause_90 ⟨IM23, CM23, (gFr.s (gFr.s (gFr.s (gFr.s (gFr.s gFr.rf e4 (rAA_3 r_o v1).2.2 rfl) e6 (rAA_4 r_o v1).2.2 rfl) e8 (rAA_5 r_o v1).2.2 rfl) e10 (rA_7 r_o).2.2 rfl) e24 (rAA_2 r_o a).2.2 rfl)⟩
  · exact hq _ _ _ dX0_addClause_9 ⟨I, C, gFr.rf⟩
theorem dX0_begin_0 : decode cX0_begin 0 = .ok (.aload_n 1, 1) := dc_43 (by decide +kernel)
theorem dX0_begin_1 : decode cX0_begin 1 = .ok (.iconst 0, 1) := dc_3 (by decide +kernel)
theorem dX0_begin_2 : decode cX0_begin 2 = .ok (.aload_n 0, 1) := dc_42 (by decide +kernel)
theorem dX0_begin_3 : decode cX0_begin 3 = .ok (.getfield 9, 3) := dc_180 0 9 (by decide +kernel)
theorem dX0_begin_6 : decode cX0_begin 6 = .ok (.iconst 0, 1) := dc_3 (by decide +kernel)
theorem dX0_begin_7 : decode cX0_begin 7 = .ok (.iload_n 2, 1) := dc_28 (by decide +kernel)
theorem dX0_begin_8 : decode cX0_begin 8 = .ok (.invokestatic 28, 3) := dc_184 0 28 (by decide +kernel)
theorem kw_3_207 : (Jvm.Cond.methodLink "ParishUnion$Act" (28 : Nat) ({ cls := "java/lang/System", name := "arraycopy", desc := "(Ljava/lang/Object;ILjava/lang/Object;II)V" } : Jvm.MethodName)) ∈ gT := gT_of (tb_3 _ (List.mem_of_getElem? (i := 207) rfl)) rfl
theorem kw_3_209 : (Jvm.Cond.native ({ cls := "java/lang/System", name := "arraycopy", desc := "(Ljava/lang/Object;ILjava/lang/Object;II)V" } : Jvm.MethodName)) ∈ gT := gT_of (tb_3 _ (List.mem_of_getElem? (i := 209) rfl)) rfl
theorem kw_3_208 : (Jvm.Cond.static ({ cls := "java/lang/System", name := "arraycopy", desc := "(Ljava/lang/Object;ILjava/lang/Object;II)V" } : Jvm.MethodName)) ∈ gT := gT_of (tb_3 _ (List.mem_of_getElem? (i := 208) rfl)) rfl
theorem kw_1_16 : (Jvm.Cond.initialized "java/lang/System") ∈ gT := gT_of (tb_1 _ (List.mem_of_getElem? (i := 16) rfl)) rfl
theorem dX0_begin_11 : decode cX0_begin 11 = .ok (.aload_n 0, 1) := dc_42 (by decide +kernel)
theorem dX0_begin_12 : decode cX0_begin 12 = .ok (.iload_n 2, 1) := dc_28 (by decide +kernel)
theorem dX0_begin_13 : decode cX0_begin 13 = .ok (.putfield 34, 3) := dc_181 0 34 (by decide +kernel)
theorem dX0_begin_16 : decode cX0_begin 16 = .ok (.aload_n 0, 1) := dc_42 (by decide +kernel)
theorem dX0_begin_17 : decode cX0_begin 17 = .ok (.iload_n 3, 1) := dc_29 (by decide +kernel)
theorem dX0_begin_18 : decode cX0_begin 18 = .ok (.putfield 38, 3) := dc_181 0 38 (by decide +kernel)
theorem kw_2_83 : (Jvm.Cond.fieldLink "ParishUnion$Act" (38 : Nat) "ParishUnion$Act" "week" "I") ∈ gT := gT_of (tb_2 _ (List.mem_of_getElem? (i := 83) rfl)) rfl
theorem dX0_begin_21 : decode cX0_begin 21 = .ok (.aload_n 0, 1) := dc_42 (by decide +kernel)
theorem dX0_begin_22 : decode cX0_begin 22 = .ok (.iconst 0, 1) := dc_3 (by decide +kernel)
theorem dX0_begin_23 : decode cX0_begin 23 = .ok (.putfield 41, 3) := dc_181 0 41 (by decide +kernel)
theorem dX0_begin_26 : decode cX0_begin 26 = .ok (.iconst 0, 1) := dc_3 (by decide +kernel)
theorem dX0_begin_27 : decode cX0_begin 27 = .ok (.istore 4, 2) := dc_54 4 (by decide +kernel)
theorem dX0_begin_29 : decode cX0_begin 29 = .ok (.iload 4, 2) := dc_21 4 (by decide +kernel)
theorem dX0_begin_31 : decode cX0_begin 31 = .ok (.bipush 10, 2) := dc_16 10 10 (by decide +kernel)
theorem dX0_begin_33 : decode cX0_begin 33 = .ok (.if_icmp .ge 17, 3) := dc_162 0 17 17 (by decide +kernel)
theorem dX0_begin_36 : decode cX0_begin 36 = .ok (.aload_n 0, 1) := dc_42 (by decide +kernel)
theorem dX0_begin_37 : decode cX0_begin 37 = .ok (.getfield 15, 3) := dc_180 0 15 (by decide +kernel)
theorem dX0_begin_40 : decode cX0_begin 40 = .ok (.iload 4, 2) := dc_21 4 (by decide +kernel)
theorem dX0_begin_42 : decode cX0_begin 42 = .ok (.iconst (-1), 1) := dc_2 (by decide +kernel)
theorem dX0_begin_43 : decode cX0_begin 43 = .ok (.iastore, 1) := dc_79 (by decide +kernel)
theorem dX0_begin_44 : decode cX0_begin 44 = .ok (.iinc 4 1, 3) := dc_132 4 1 1 (by decide +kernel)
theorem dX0_begin_47 : decode cX0_begin 47 = .ok (.goto (-18), 3) := dc_167 255 238 (-18) (by decide +kernel)
theorem dX0_begin_50 : decode cX0_begin 50 = .ok (.return_, 1) := dc_177 (by decide +kernel)
abbrev R_X0_begin : Room := { frames := 4, cells := 0, slots := 0, locals := 120 }
set_option maxRecDepth 100000 in
set_option maxHeartbeats 4000000 in
theorem s_X0_begin {l : Launch} {n0 : Nat} {D : va_G} {cA : Nat → ClassId} {M : gM} (o : Int) (r_o : 87 ≤ o ∧ o ≤ 147 ∧ (o - 87) % 6 = 0) (b : Int) (r_b : 0 ≤ b ∧ b ≤ 150) (c : Int) (r_c : 0 ≤ c ∧ c ≤ 300) {sz : Nat} (hsz : 206 ≤ sz) (I : gI sz M) (C : gC sz M)   : Met l yX0_begin (gWsOf yX0_begin cX0_begin 5 (Option.none : Option Jvm.ClassFile.FieldType)) R_X0_begin (gPc n0 D cA [gA n0 o, gA n0 8, gJ b, gJ c] M sz) (gQv n0 D cA sz (fun M1 => gI sz M1 ∧ gC sz M1 ∧ gFr 256 M M1)) 0 0 (fun q => n0 ≤ q) := by
  refine gMetV [gA n0 o, gA n0 8, gJ b, gJ c] (by decide) (Nat.le_of_ble_eq_true rfl) ⟨rfl, rfl⟩ ?_
  intro p e s m args below meth cd Q X hq
  have X : gCx p s m args meth cd n0 D cA "ParishUnion$Act" cX0_begin 5 := X
  show G p l e R_X0_begin s m args below meth cd n0 D cA 5 Q 0 0 M sz 0 [(0, gA n0 o), (1, gA n0 8), (2, gJ b), (3, gJ c)] []
  refine g_aload_n (n := 1) X 1 dX0_begin_0 rfl rfl rfl ?_
  refine g_iconst (n := 2) X dX0_begin_1 rfl ?_
  refine g_aload_n (n := 3) X 0 dX0_begin_2 rfl rfl rfl ?_
  refine gg_0_0 (n := 6) (z := o + 1) X (Ao0 r_o) (Aosz hsz r_o) (lay2_A r_o) kw_2_71 dX0_begin_3 rfl (rfA_0 I hsz r_o) (by omega) ?_
  refine g_iconst (n := 7) X dX0_begin_6 rfl ?_
  refine g_iload_n (n := 8) X 2 dX0_begin_7 rfl rfl rfl ?_
  refine g_acopyB (n := 11) X kw_3_207 kw_3_209 kw_3_208 kw_1_16 (by decide) (gsz hsz (by decide)) lay_8 (A1o0 r_o) (A1osz hsz r_o) (lay2_A1 r_o) (by omega) (by omega) (by omega) (by omega) (gI.bytes I (by decide) (gsz hsz (by decide)) (fun _ => rfl)) (Nat.le_of_ble_eq_true rfl) (Nat.le_of_ble_eq_true rfl) dX0_begin_8 rfl ?_
  refine G.nm (fun M1 e2 => ?_)
  have IM1 : gI sz M1 := gI.cpy I (by decide) (gsz hsz (by decide)) (fun k => ((rAA_1 r_o k).1.trans (ra_8 k).1.symm)) e2
  have CM1 : gC sz M1 := gC.cpy C (fun k => (rAA_1 r_o k).2.1) e2
  refine g_aload_n (n := 12) X 0 dX0_begin_11 rfl rfl rfl ?_
  refine g_iload_n (n := 13) X 2 dX0_begin_12 rfl rfl rfl ?_
  refine gp_0_5 (n := 16) X (Ao0 r_o) (Aosz hsz r_o) (lay2_A r_o) kw_2_82 dX0_begin_13 rfl ?_
  refine G.nm (fun M3 e4 => ?_)
  have IM3 : gI sz M3 := gI.set IM1 (rA_5 r_o).1 (by omega) e4
  have CM3 : gC sz M3 := gC.set CM1 (rA_5 r_o).2.1 e4
  refine g_aload_n (n := 17) X 0 dX0_begin_16 rfl rfl rfl ?_
  refine g_iload_n (n := 18) X 3 dX0_begin_17 rfl rfl rfl ?_
  refine gp_0_6 (n := 21) X (Ao0 r_o) (Aosz hsz r_o) (lay2_A r_o) kw_2_83 dX0_begin_18 rfl ?_
  refine G.nm (fun M5 e6 => ?_)
  have IM5 : gI sz M5 := gI.set IM3 (rA_6 r_o).1 (by omega) e6
  have CM5 : gC sz M5 := gC.set CM3 (rA_6 r_o).2.1 e6
  refine g_aload_n (n := 22) X 0 dX0_begin_21 rfl rfl rfl ?_
  refine g_iconst (n := 23) X dX0_begin_22 rfl ?_
  refine gp_0_7 (n := 26) X (Ao0 r_o) (Aosz hsz r_o) (lay2_A r_o) kw_2_85 dX0_begin_23 rfl ?_
  refine G.nm (fun M7 e8 => ?_)
  have IM7 : gI sz M7 := gI.set IM5 (rA_7 r_o).1 (by omega) e8
  have CM7 : gC sz M7 := gC.set CM5 (rA_7 r_o).2.1 e8
  refine g_iconst (n := 27) X dX0_begin_26 rfl ?_
  refine g_istore (n := 29) (L' := [(4, gJ 0), (0, gA n0 o), (1, gA n0 8), (2, gJ b), (3, gJ c)]) X dX0_begin_27 (by decide) rfl rfl ?_
  have j11 : ∀ (N27 : Nat) (v9 : Int) (M10 : gM) , (0 ≤ v9 ∧ v9 ≤ 10) → gI sz M10 → gC sz M10 → gFr 256 M7 M10 → (10 - v9).toNat < N27 → G p l e R_X0_begin s m args below meth cd n0 D cA 5 Q 0 0 M10 sz 29 [(0, gA n0 o), (4, gJ v9)] [] := by
    intro N27; induction N27 with
    | zero => intro v9 M10 rv9 IM10 CM10 FM10 hm29; exfalso; omega
    | succ N27 ih28 =>
      intro v9 M10 rv9 IM10 CM10 FM10 hm29
      refine g_iload (n := 31) X 1 dX0_begin_29 rfl rfl ?_
      refine g_bipush (n := 33) X dX0_begin_31 (by decide +kernel) rfl ?_
      refine g_icmp_ge (n := 36) (tgt := 50) X dX0_begin_33 (by decide) (by omega) (by omega) rfl (fun c30 => ?_) (fun c30 => ?_)
      · exact hq _ _ _ dX0_begin_50 ⟨IM10, CM10, (gFr.c (gFr.s (gFr.s (gFr.s (gFr.y gFr.rf e2 (fun k => (rAA_1 r_o k).2.2) rfl) e4 (rA_5 r_o).2.2 rfl) e6 (rA_6 r_o).2.2 rfl) e8 (rA_7 r_o).2.2 rfl) FM10 rfl)⟩
      · refine g_aload_n (n := 37) X 0 dX0_begin_36 rfl rfl rfl ?_
        refine gg_0_1 (n := 40) (z := o + 2) X (Ao0 r_o) (Aosz hsz r_o) (lay2_A r_o) kw_2_73 dX0_begin_37 rfl (rfA_1 IM10 hsz r_o) (by omega) ?_
        refine g_iload (n := 42) X 1 dX0_begin_40 rfl rfl ?_
        refine g_iconst (n := 43) X dX0_begin_42 rfl ?_
        refine g_iast (n := 44) X (A2o0 r_o) (A2osz hsz r_o) (lay2_A2 r_o) (by omega) (by omega) (by decide) dX0_begin_43 rfl ?_
        refine G.nm (fun M31 e32 => ?_)
        have IM31 : gI sz M31 := gI.set IM10 (rAA_2 r_o v9).1 (by omega) e32
        have CM31 : gC sz M31 := gC.set CM10 (rAA_2 r_o v9).2.1 e32
        refine g_iinc (n := 47) (w := v9 + 1) (L' := [(4, gJ (v9 + 1)), (0, gA n0 o)]) X 1 dX0_begin_44 rfl rfl (by decide) rfl rfl ?_
        refine g_goto (tgt := 29) X dX0_begin_47 (by decide) ?_
        refine G.sub (L' := [(0, gA n0 o), (4, gJ (v9 + 1))]) [1, 0] rfl ?_
        exact ih28 (v9 + 1) M31 (by omega) IM31 CM31 (gFr.s (gFr.c gFr.rf FM10 rfl) e32 (rAA_2 r_o v9).2.2 rfl) (by omega)
  refine G.sub (L' := [(0, gA n0 o), (4, gJ 0)]) [1, 0] rfl ?_
  exact j11 _ 0 M7 (by omega) IM7 CM7 gFr.rf (Nat.lt_succ_self _)
theorem dX7_skip_0 : decode cX7_skip 0 = .ok (.aload_n 0, 1) := dc_42 (by decide +kernel)
theorem dX7_skip_1 : decode cX7_skip 1 = .ok (.getfield 23, 3) := dc_180 0 23 (by decide +kernel)
theorem kw_2_213 : (Jvm.Cond.fieldLink "ParishUnion$Reader" (23 : Nat) "ParishUnion$Reader" "place" "I") ∈ gT := gT_of (tb_2 _ (List.mem_of_getElem? (i := 213) rfl)) rfl
theorem rc_159_2 : gRg 159 2 = (0, 150) ∧ gCr 159 2 = false ∧ gG 159 2 = 29 := by decide +kernel
theorem dX7_skip_4 : decode cX7_skip 4 = .ok (.aload_n 0, 1) := dc_42 (by decide +kernel)
theorem dX7_skip_5 : decode cX7_skip 5 = .ok (.getfield 22, 3) := dc_180 0 22 (by decide +kernel)
theorem kw_2_212 : (Jvm.Cond.fieldLink "ParishUnion$Reader" (22 : Nat) "ParishUnion$Reader" "size" "I") ∈ gT := gT_of (tb_2 _ (List.mem_of_getElem? (i := 212) rfl)) rfl
theorem rc_159_1 : gRg 159 1 = (0, 150) ∧ gCr 159 1 = false ∧ gG 159 1 = 28 := by decide +kernel
theorem dX7_skip_8 : decode cX7_skip 8 = .ok (.if_icmp .ge 16, 3) := dc_162 0 16 16 (by decide +kernel)
theorem dX7_skip_24 : decode cX7_skip 24 = .ok (.iconst 0, 1) := dc_3 (by decide +kernel)
theorem dX7_skip_25 : decode cX7_skip 25 = .ok (.ireturn, 1) := dc_172 (by decide +kernel)
theorem dX7_skip_11 : decode cX7_skip 11 = .ok (.aload_n 0, 1) := dc_42 (by decide +kernel)
theorem dX7_skip_12 : decode cX7_skip 12 = .ok (.getfield 9, 3) := dc_180 0 9 (by decide +kernel)
theorem kw_2_211 : (Jvm.Cond.fieldLink "ParishUnion$Reader" (9 : Nat) "ParishUnion$Reader" "text" "[B") ∈ gT := gT_of (tb_2 _ (List.mem_of_getElem? (i := 211) rfl)) rfl
theorem dX7_skip_15 : decode cX7_skip 15 = .ok (.aload_n 0, 1) := dc_42 (by decide +kernel)
theorem dX7_skip_16 : decode cX7_skip 16 = .ok (.getfield 23, 3) := dc_180 0 23 (by decide +kernel)
theorem dX7_skip_19 : decode cX7_skip 19 = .ok (.baload, 1) := dc_51 (by decide +kernel)
theorem dX7_skip_20 : decode cX7_skip 20 = .ok (.iload_n 1, 1) := dc_27 (by decide +kernel)
theorem dX7_skip_21 : decode cX7_skip 21 = .ok (.if_icmp .eq 5, 3) := dc_159 0 5 5 (by decide +kernel)
theorem dX7_skip_26 : decode cX7_skip 26 = .ok (.aload_n 0, 1) := dc_42 (by decide +kernel)
theorem dX7_skip_27 : decode cX7_skip 27 = .ok (.dup, 1) := dc_89 (by decide +kernel)
theorem dX7_skip_28 : decode cX7_skip 28 = .ok (.getfield 23, 3) := dc_180 0 23 (by decide +kernel)
theorem dX7_skip_31 : decode cX7_skip 31 = .ok (.iconst 1, 1) := dc_4 (by decide +kernel)
theorem dX7_skip_32 : decode cX7_skip 32 = .ok (.iadd, 1) := dc_96 (by decide +kernel)
theorem dX7_skip_33 : decode cX7_skip 33 = .ok (.putfield 23, 3) := dc_181 0 23 (by decide +kernel)
theorem dX7_skip_36 : decode cX7_skip 36 = .ok (.iconst 1, 1) := dc_4 (by decide +kernel)
theorem dX7_skip_37 : decode cX7_skip 37 = .ok (.ireturn, 1) := dc_172 (by decide +kernel)
abbrev R_X7_skip : Room := { frames := 0, cells := 0, slots := 0, locals := 0 }
set_option maxRecDepth 100000 in
set_option maxHeartbeats 4000000 in
theorem s_X7_skip {l : Launch} {n0 : Nat} {D : va_G} {cA : Nat → ClassId} {M : gM} (a : Int) (r_a : 0 ≤ a ∧ a ≤ 65535) (o : Int) (r_o : 87 ≤ o ∧ o ≤ 147 ∧ (o - 87) % 6 = 0) {sz : Nat} (hsz : 206 ≤ sz) (I : gI sz M) (C : gC sz M) (ht : M 159 0 = o + 1 + 1)  : Met l yX7_skip (gWsOf yX7_skip cX7_skip 2 (Option.some Jvm.ClassFile.FieldType.boolean)) R_X7_skip (gPc n0 D cA [gA n0 159, gJ a] M sz) (gQi n0 D cA sz (fun z M1 => (0 ≤ z ∧ z ≤ 1) ∧ gI sz M1 ∧ gC sz M1 ∧ gFr 536870912 M M1)) 0 0 (fun q => n0 ≤ q) := by
  refine gMetZ [gA n0 159, gJ a] (by decide) (Nat.le_of_ble_eq_true rfl) ⟨rfl, rfl⟩ ?_
  intro p e s m args below meth cd Q X hq
  have X : gCx p s m args meth cd n0 D cA "ParishUnion$Reader" cX7_skip 2 := X
  show G p l e R_X7_skip s m args below meth cd n0 D cA 2 Q 0 0 M sz 0 [(0, gA n0 159), (1, gJ a)] []
  refine g_aload_n (n := 1) X 0 dX7_skip_0 rfl rfl rfl ?_
  obtain ⟨v1, hv1, rv1⟩ := gRd I (by decide) (gsz hsz (by decide)) rc_159_2.1
  refine gg_7_2 (n := 4) (z := v1) X (by decide) (gsz hsz (by decide)) lay_159 kw_2_213 dX7_skip_1 rfl hv1 ?_
  refine g_aload_n (n := 5) X 0 dX7_skip_4 rfl rfl rfl ?_
  obtain ⟨v2, hv2, rv2⟩ := gRd I (by decide) (gsz hsz (by decide)) rc_159_1.1
  refine gg_7_1 (n := 8) (z := v2) X (by decide) (gsz hsz (by decide)) lay_159 kw_2_212 dX7_skip_5 rfl hv2 ?_
  refine g_icmp_ge (n := 11) (tgt := 24) X dX7_skip_8 (by decide) (by omega) (by omega) rfl (fun c3 => ?_) (fun c3 => ?_)
  · refine g_iconst (n := 25) X dX7_skip_24 rfl ?_
    exact hq _ _ _ _ dX7_skip_25 (by omega) ⟨by omega, I, C, gFr.rf⟩
  · refine g_aload_n (n := 12) X 0 dX7_skip_11 rfl rfl rfl ?_
    refine gg_7_0 (n := 15) (z := o + 1) X (by decide) (gsz hsz (by decide)) lay_159 kw_2_211 dX7_skip_12 rfl ht (by omega) ?_
    refine g_aload_n (n := 16) X 0 dX7_skip_15 rfl rfl rfl ?_
    refine gg_7_2 (n := 19) (z := v1) X (by decide) (gsz hsz (by decide)) lay_159 kw_2_213 dX7_skip_16 rfl hv1 ?_
    obtain ⟨v4, hv4, rv4⟩ := gRd I (A1o0 r_o) (A1osz hsz r_o) (rAA_1 r_o v1).1
    refine g_bald2 (n := 20) (v := v4) X (A1o0 r_o) (A1osz hsz r_o) (lay2_A1 r_o) (by omega) (by omega) (by decide) dX7_skip_19 rfl hv4 ?_
    refine g_iload_n (n := 21) X 1 dX7_skip_20 rfl rfl rfl ?_
    refine g_icmp_eq (n := 24) (tgt := 26) X dX7_skip_21 (by decide) (by omega) (by omega) rfl (fun c5 => ?_) (fun c5 => ?_)
    · refine g_aload_n (n := 27) X 0 dX7_skip_26 rfl rfl rfl ?_
      refine g_dup (n := 28) X dX7_skip_27 rfl rfl ?_
      refine gg_7_2 (n := 31) (z := v1) X (by decide) (gsz hsz (by decide)) lay_159 kw_2_213 dX7_skip_28 rfl hv1 ?_
      refine g_iconst (n := 32) X dX7_skip_31 rfl ?_
      refine g_iadd (n := 33) (z := v1 + 1) X dX7_skip_32 (by omega) rfl ?_
      refine gp_7_2 (n := 36) X (by decide) (gsz hsz (by decide)) lay_159 kw_2_213 dX7_skip_33 rfl ?_
      refine G.nm (fun M6 e7 => ?_)
      have IM6 : gI sz M6 := gI.set I rc_159_2.1 (by omega) e7
      have CM6 : gC sz M6 := gC.set C rc_159_2.2.1 e7
      refine g_iconst (n := 37) X dX7_skip_36 rfl ?_
      exact hq _ _ _ _ dX7_skip_37 (by omega) ⟨by omega, IM6, CM6, (gFr.s gFr.rf e7 rc_159_2.2.2 rfl)⟩
    · refine g_iconst (n := 25) X dX7_skip_24 rfl ?_
      exact hq _ _ _ _ dX7_skip_25 (by omega) ⟨by omega, I, C, gFr.rf⟩
theorem dX7_readNumber_0 : decode cX7_readNumber 0 = .ok (.iconst 0, 1) := dc_3 (by decide +kernel)
theorem dX7_readNumber_1 : decode cX7_readNumber 1 = .ok (.istore_n 2, 1) := dc_61 (by decide +kernel)
theorem dX7_readNumber_2 : decode cX7_readNumber 2 = .ok (.iconst 0, 1) := dc_3 (by decide +kernel)
theorem dX7_readNumber_3 : decode cX7_readNumber 3 = .ok (.istore_n 3, 1) := dc_62 (by decide +kernel)
theorem dX7_readNumber_4 : decode cX7_readNumber 4 = .ok (.iload_n 3, 1) := dc_29 (by decide +kernel)
theorem dX7_readNumber_5 : decode cX7_readNumber 5 = .ok (.iload_n 1, 1) := dc_27 (by decide +kernel)
theorem dX7_readNumber_6 : decode cX7_readNumber 6 = .ok (.if_icmp .ge 86, 3) := dc_162 0 86 86 (by decide +kernel)
theorem dX7_readNumber_9 : decode cX7_readNumber 9 = .ok (.aload_n 0, 1) := dc_42 (by decide +kernel)
theorem dX7_readNumber_10 : decode cX7_readNumber 10 = .ok (.getfield 23, 3) := dc_180 0 23 (by decide +kernel)
theorem dX7_readNumber_13 : decode cX7_readNumber 13 = .ok (.aload_n 0, 1) := dc_42 (by decide +kernel)
theorem dX7_readNumber_14 : decode cX7_readNumber 14 = .ok (.getfield 22, 3) := dc_180 0 22 (by decide +kernel)
theorem dX7_readNumber_17 : decode cX7_readNumber 17 = .ok (.if_icmp .ge 75, 3) := dc_162 0 75 75 (by decide +kernel)
theorem dX7_readNumber_92 : decode cX7_readNumber 92 = .ok (.iload_n 3, 1) := dc_29 (by decide +kernel)
theorem dX7_readNumber_93 : decode cX7_readNumber 93 = .ok (.ifCond .ne 7, 3) := dc_154 0 7 7 (by decide +kernel)
theorem dX7_readNumber_96 : decode cX7_readNumber 96 = .ok (.iconst (-1), 1) := dc_2 (by decide +kernel)
theorem dX7_readNumber_97 : decode cX7_readNumber 97 = .ok (.goto 4, 3) := dc_167 0 4 4 (by decide +kernel)
theorem dX7_readNumber_101 : decode cX7_readNumber 101 = .ok (.ireturn, 1) := dc_172 (by decide +kernel)
theorem dX7_readNumber_20 : decode cX7_readNumber 20 = .ok (.aload_n 0, 1) := dc_42 (by decide +kernel)
theorem dX7_readNumber_21 : decode cX7_readNumber 21 = .ok (.getfield 9, 3) := dc_180 0 9 (by decide +kernel)
theorem dX7_readNumber_24 : decode cX7_readNumber 24 = .ok (.aload_n 0, 1) := dc_42 (by decide +kernel)
theorem dX7_readNumber_25 : decode cX7_readNumber 25 = .ok (.getfield 23, 3) := dc_180 0 23 (by decide +kernel)
theorem dX7_readNumber_28 : decode cX7_readNumber 28 = .ok (.baload, 1) := dc_51 (by decide +kernel)
theorem dX7_readNumber_29 : decode cX7_readNumber 29 = .ok (.bipush 48, 2) := dc_16 48 48 (by decide +kernel)
theorem dX7_readNumber_31 : decode cX7_readNumber 31 = .ok (.if_icmp .lt 61, 3) := dc_161 0 61 61 (by decide +kernel)
theorem dX7_readNumber_34 : decode cX7_readNumber 34 = .ok (.aload_n 0, 1) := dc_42 (by decide +kernel)
theorem dX7_readNumber_35 : decode cX7_readNumber 35 = .ok (.getfield 9, 3) := dc_180 0 9 (by decide +kernel)
theorem dX7_readNumber_38 : decode cX7_readNumber 38 = .ok (.aload_n 0, 1) := dc_42 (by decide +kernel)
theorem dX7_readNumber_39 : decode cX7_readNumber 39 = .ok (.getfield 23, 3) := dc_180 0 23 (by decide +kernel)
theorem dX7_readNumber_42 : decode cX7_readNumber 42 = .ok (.baload, 1) := dc_51 (by decide +kernel)
theorem dX7_readNumber_43 : decode cX7_readNumber 43 = .ok (.bipush 57, 2) := dc_16 57 57 (by decide +kernel)
theorem dX7_readNumber_45 : decode cX7_readNumber 45 = .ok (.if_icmp .gt 47, 3) := dc_163 0 47 47 (by decide +kernel)
theorem dX7_readNumber_48 : decode cX7_readNumber 48 = .ok (.iload_n 3, 1) := dc_29 (by decide +kernel)
theorem dX7_readNumber_49 : decode cX7_readNumber 49 = .ok (.ifCond .le 9, 3) := dc_158 0 9 9 (by decide +kernel)
theorem dX7_readNumber_58 : decode cX7_readNumber 58 = .ok (.bipush 10, 2) := dc_16 10 10 (by decide +kernel)
theorem dX7_readNumber_60 : decode cX7_readNumber 60 = .ok (.iload_n 2, 1) := dc_28 (by decide +kernel)
theorem dX7_readNumber_61 : decode cX7_readNumber 61 = .ok (.imul, 1) := dc_104 (by decide +kernel)
theorem dX7_readNumber_62 : decode cX7_readNumber 62 = .ok (.aload_n 0, 1) := dc_42 (by decide +kernel)
theorem dX7_readNumber_63 : decode cX7_readNumber 63 = .ok (.getfield 9, 3) := dc_180 0 9 (by decide +kernel)
theorem dX7_readNumber_66 : decode cX7_readNumber 66 = .ok (.aload_n 0, 1) := dc_42 (by decide +kernel)
theorem dX7_readNumber_67 : decode cX7_readNumber 67 = .ok (.getfield 23, 3) := dc_180 0 23 (by decide +kernel)
theorem dX7_readNumber_70 : decode cX7_readNumber 70 = .ok (.baload, 1) := dc_51 (by decide +kernel)
theorem dX7_readNumber_71 : decode cX7_readNumber 71 = .ok (.iadd, 1) := dc_96 (by decide +kernel)
theorem dX7_readNumber_72 : decode cX7_readNumber 72 = .ok (.bipush 48, 2) := dc_16 48 48 (by decide +kernel)
theorem dX7_readNumber_74 : decode cX7_readNumber 74 = .ok (.isub, 1) := dc_100 (by decide +kernel)
theorem dX7_readNumber_75 : decode cX7_readNumber 75 = .ok (.istore_n 2, 1) := dc_61 (by decide +kernel)
theorem dX7_readNumber_76 : decode cX7_readNumber 76 = .ok (.iinc 3 1, 3) := dc_132 3 1 1 (by decide +kernel)
theorem dX7_readNumber_79 : decode cX7_readNumber 79 = .ok (.aload_n 0, 1) := dc_42 (by decide +kernel)
theorem dX7_readNumber_80 : decode cX7_readNumber 80 = .ok (.dup, 1) := dc_89 (by decide +kernel)
theorem dX7_readNumber_81 : decode cX7_readNumber 81 = .ok (.getfield 23, 3) := dc_180 0 23 (by decide +kernel)
theorem dX7_readNumber_84 : decode cX7_readNumber 84 = .ok (.iconst 1, 1) := dc_4 (by decide +kernel)
theorem dX7_readNumber_85 : decode cX7_readNumber 85 = .ok (.iadd, 1) := dc_96 (by decide +kernel)
theorem dX7_readNumber_86 : decode cX7_readNumber 86 = .ok (.putfield 23, 3) := dc_181 0 23 (by decide +kernel)
theorem dX7_readNumber_89 : decode cX7_readNumber 89 = .ok (.goto (-85), 3) := dc_167 255 171 (-85) (by decide +kernel)
theorem dX7_readNumber_100 : decode cX7_readNumber 100 = .ok (.iload_n 2, 1) := dc_28 (by decide +kernel)
theorem rc_159_0 : gRg 159 0 = (0, 400) ∧ gCr 159 0 = false ∧ gG 159 0 = 27 := by decide +kernel
theorem dX7_readNumber_52 : decode cX7_readNumber 52 = .ok (.iload_n 2, 1) := dc_28 (by decide +kernel)
theorem dX7_readNumber_53 : decode cX7_readNumber 53 = .ok (.ifCond .ne 5, 3) := dc_154 0 5 5 (by decide +kernel)
theorem dX7_readNumber_56 : decode cX7_readNumber 56 = .ok (.iload_n 2, 1) := dc_28 (by decide +kernel)
theorem dX7_readNumber_57 : decode cX7_readNumber 57 = .ok (.ireturn, 1) := dc_172 (by decide +kernel)
abbrev R_X7_readNumber : Room := { frames := 0, cells := 0, slots := 0, locals := 0 }
set_option maxRecDepth 100000 in
set_option maxHeartbeats 4000000 in
theorem s_X7_readNumber {l : Launch} {n0 : Nat} {D : va_G} {cA : Nat → ClassId} {M : gM} (a : Int) (r_a : 1 ≤ a ∧ a ≤ 4) (o : Int) (r_o : 87 ≤ o ∧ o ≤ 147 ∧ (o - 87) % 6 = 0) {sz : Nat} (hsz : 206 ≤ sz) (I : gI sz M) (C : gC sz M) (ht : M 159 0 = o + 1 + 1)  : Met l yX7_readNumber (gWsOf yX7_readNumber cX7_readNumber 4 (Option.some Jvm.ClassFile.FieldType.int)) R_X7_readNumber (gPc n0 D cA [gA n0 159, gJ a] M sz) (gQi n0 D cA sz (fun z M1 => (-2147483648 ≤ z ∧ z ≤ 2147483647) ∧ gI sz M1 ∧ gC sz M1 ∧ gFr 536870912 M M1)) 0 0 (fun q => n0 ≤ q) := by
  refine gMetI [gA n0 159, gJ a] (by decide) (Nat.le_of_ble_eq_true rfl) ⟨rfl, rfl⟩ ?_
  intro p e s m args below meth cd Q X hq
  have X : gCx p s m args meth cd n0 D cA "ParishUnion$Reader" cX7_readNumber 4 := X
  show G p l e R_X7_readNumber s m args below meth cd n0 D cA 4 Q 0 0 M sz 0 [(0, gA n0 159), (1, gJ a)] []
  refine g_iconst (n := 1) X dX7_readNumber_0 rfl ?_
  refine g_istore_n (n := 2) (L' := [(2, gJ 0), (0, gA n0 159), (1, gJ a)]) X dX7_readNumber_1 rfl (by decide) rfl rfl ?_
  refine g_iconst (n := 3) X dX7_readNumber_2 rfl ?_
  refine g_istore_n (n := 4) (L' := [(3, gJ 0), (2, gJ 0), (0, gA n0 159), (1, gJ a)]) X dX7_readNumber_3 rfl (by decide) rfl rfl ?_
  have j4 : ∀ (N223 : Nat) (v1 v2 : Int) (M3 : gM) , (-2147483648 ≤ v1 ∧ v1 ≤ 2147483647) → (0 ≤ v2 ∧ v2 ≤ 4) → gI sz M3 → gC sz M3 → gFr 536870912 M M3 → (4 - v2).toNat < N223 → G p l e R_X7_readNumber s m args below meth cd n0 D cA 4 Q 0 0 M3 sz 4 [(0, gA n0 159), (1, gJ a), (2, gJ v1), (3, gJ v2)] [] := by
    intro N223; induction N223 with
    | zero => intro v1 v2 M3 rv1 rv2 IM3 CM3 FM3 hm225; exfalso; omega
    | succ N223 ih224 =>
      intro v1 v2 M3 rv1 rv2 IM3 CM3 FM3 hm225
      refine g_iload_n (n := 5) X 3 dX7_readNumber_4 rfl rfl rfl ?_
      refine g_iload_n (n := 6) X 1 dX7_readNumber_5 rfl rfl rfl ?_
      refine g_icmp_ge (n := 9) (tgt := 92) X dX7_readNumber_6 (by decide) (by omega) (by omega) rfl (fun c226 => ?_) (fun c226 => ?_)
      · refine g_iload_n (n := 93) X 3 dX7_readNumber_92 rfl rfl rfl ?_
        refine g_if_ne (n := 96) (tgt := 100) X dX7_readNumber_93 (by decide) (by omega) rfl (fun c227 => ?_) (fun c227 => by exfalso; omega)
        refine g_iload_n (n := 101) X 2 dX7_readNumber_100 rfl rfl rfl ?_
        exact hq _ _ _ _ dX7_readNumber_101 ⟨by omega, IM3, CM3, (gFr.c gFr.rf FM3 rfl)⟩
      · refine g_aload_n (n := 10) X 0 dX7_readNumber_9 rfl rfl rfl ?_
        obtain ⟨v228, hv228, rv228⟩ := gRd IM3 (by decide) (gsz hsz (by decide)) rc_159_2.1
        refine gg_7_2 (n := 13) (z := v228) X (by decide) (gsz hsz (by decide)) lay_159 kw_2_213 dX7_readNumber_10 rfl hv228 ?_
        refine g_aload_n (n := 14) X 0 dX7_readNumber_13 rfl rfl rfl ?_
        obtain ⟨v229, hv229, rv229⟩ := gRd IM3 (by decide) (gsz hsz (by decide)) rc_159_1.1
        refine gg_7_1 (n := 17) (z := v229) X (by decide) (gsz hsz (by decide)) lay_159 kw_2_212 dX7_readNumber_14 rfl hv229 ?_
        refine g_icmp_ge (n := 20) (tgt := 92) X dX7_readNumber_17 (by decide) (by omega) (by omega) rfl (fun c230 => ?_) (fun c230 => ?_)
        · refine g_iload_n (n := 93) X 3 dX7_readNumber_92 rfl rfl rfl ?_
          refine g_if_ne (n := 96) (tgt := 100) X dX7_readNumber_93 (by decide) (by omega) rfl (fun c231 => ?_) (fun c231 => ?_)
          · refine g_iload_n (n := 101) X 2 dX7_readNumber_100 rfl rfl rfl ?_
            exact hq _ _ _ _ dX7_readNumber_101 ⟨by omega, IM3, CM3, (gFr.c gFr.rf FM3 rfl)⟩
          · refine g_iconst (n := 97) X dX7_readNumber_96 rfl ?_
            refine g_goto (tgt := 101) X dX7_readNumber_97 (by decide) ?_
            exact hq _ _ _ _ dX7_readNumber_101 ⟨by omega, IM3, CM3, (gFr.c gFr.rf FM3 rfl)⟩
        · refine g_aload_n (n := 21) X 0 dX7_readNumber_20 rfl rfl rfl ?_
          refine gg_7_0 (n := 24) (z := o + 1) X (by decide) (gsz hsz (by decide)) lay_159 kw_2_211 dX7_readNumber_21 rfl ((gFr.at FM3 rc_159_0.2.2 rfl).trans ht) (by omega) ?_
          refine g_aload_n (n := 25) X 0 dX7_readNumber_24 rfl rfl rfl ?_
          refine gg_7_2 (n := 28) (z := v228) X (by decide) (gsz hsz (by decide)) lay_159 kw_2_213 dX7_readNumber_25 rfl hv228 ?_
          obtain ⟨v232, hv232, rv232⟩ := gRd IM3 (A1o0 r_o) (A1osz hsz r_o) (rAA_1 r_o v228).1
          refine g_bald2 (n := 29) (v := v232) X (A1o0 r_o) (A1osz hsz r_o) (lay2_A1 r_o) (by omega) (by omega) (by decide) dX7_readNumber_28 rfl hv232 ?_
          refine g_bipush (n := 31) X dX7_readNumber_29 (by decide +kernel) rfl ?_
          refine g_icmp_lt (n := 34) (tgt := 92) X dX7_readNumber_31 (by decide) (by omega) (by omega) rfl (fun c233 => ?_) (fun c233 => ?_)
          · refine g_iload_n (n := 93) X 3 dX7_readNumber_92 rfl rfl rfl ?_
            refine g_if_ne (n := 96) (tgt := 100) X dX7_readNumber_93 (by decide) (by omega) rfl (fun c234 => ?_) (fun c234 => ?_)
            · refine g_iload_n (n := 101) X 2 dX7_readNumber_100 rfl rfl rfl ?_
              exact hq _ _ _ _ dX7_readNumber_101 ⟨by omega, IM3, CM3, (gFr.c gFr.rf FM3 rfl)⟩
            · refine g_iconst (n := 97) X dX7_readNumber_96 rfl ?_
              refine g_goto (tgt := 101) X dX7_readNumber_97 (by decide) ?_
              exact hq _ _ _ _ dX7_readNumber_101 ⟨by omega, IM3, CM3, (gFr.c gFr.rf FM3 rfl)⟩
          · refine g_aload_n (n := 35) X 0 dX7_readNumber_34 rfl rfl rfl ?_
            refine gg_7_0 (n := 38) (z := o + 1) X (by decide) (gsz hsz (by decide)) lay_159 kw_2_211 dX7_readNumber_35 rfl ((gFr.at FM3 rc_159_0.2.2 rfl).trans ht) (by omega) ?_
            refine g_aload_n (n := 39) X 0 dX7_readNumber_38 rfl rfl rfl ?_
            refine gg_7_2 (n := 42) (z := v228) X (by decide) (gsz hsz (by decide)) lay_159 kw_2_213 dX7_readNumber_39 rfl hv228 ?_
            refine g_bald2 (n := 43) (v := v232) X (A1o0 r_o) (A1osz hsz r_o) (lay2_A1 r_o) (by omega) (by omega) (by decide) dX7_readNumber_42 rfl hv232 ?_
            refine g_bipush (n := 45) X dX7_readNumber_43 (by decide +kernel) rfl ?_
            refine g_icmp_gt (n := 48) (tgt := 92) X dX7_readNumber_45 (by decide) (by omega) (by omega) rfl (fun c235 => ?_) (fun c235 => ?_)
            · refine g_iload_n (n := 93) X 3 dX7_readNumber_92 rfl rfl rfl ?_
              refine g_if_ne (n := 96) (tgt := 100) X dX7_readNumber_93 (by decide) (by omega) rfl (fun c236 => ?_) (fun c236 => ?_)
              · refine g_iload_n (n := 101) X 2 dX7_readNumber_100 rfl rfl rfl ?_
                exact hq _ _ _ _ dX7_readNumber_101 ⟨by omega, IM3, CM3, (gFr.c gFr.rf FM3 rfl)⟩
              · refine g_iconst (n := 97) X dX7_readNumber_96 rfl ?_
                refine g_goto (tgt := 101) X dX7_readNumber_97 (by decide) ?_
                exact hq _ _ _ _ dX7_readNumber_101 ⟨by omega, IM3, CM3, (gFr.c gFr.rf FM3 rfl)⟩
            · refine g_iload_n (n := 49) X 3 dX7_readNumber_48 rfl rfl rfl ?_
              refine g_if_le (n := 52) (tgt := 58) X dX7_readNumber_49 (by decide) (by omega) rfl (fun c237 => ?_) (fun c237 => ?_)
              · refine g_bipush (n := 60) X dX7_readNumber_58 (by decide +kernel) rfl ?_
                refine g_iload_n (n := 61) X 2 dX7_readNumber_60 rfl rfl rfl ?_
                refine g_imulA (n := 62) X dX7_readNumber_61 rfl (fun v238 rv238 xv238 => ?_)
                clear xv238
                refine g_aload_n (n := 63) X 0 dX7_readNumber_62 rfl rfl rfl ?_
                refine gg_7_0 (n := 66) (z := o + 1) X (by decide) (gsz hsz (by decide)) lay_159 kw_2_211 dX7_readNumber_63 rfl ((gFr.at FM3 rc_159_0.2.2 rfl).trans ht) (by omega) ?_
                refine g_aload_n (n := 67) X 0 dX7_readNumber_66 rfl rfl rfl ?_
                refine gg_7_2 (n := 70) (z := v228) X (by decide) (gsz hsz (by decide)) lay_159 kw_2_213 dX7_readNumber_67 rfl hv228 ?_
                refine g_bald2 (n := 71) (v := v232) X (A1o0 r_o) (A1osz hsz r_o) (lay2_A1 r_o) (by omega) (by omega) (by decide) dX7_readNumber_70 rfl hv232 ?_
                refine g_iaddA (n := 72) X dX7_readNumber_71 rfl (fun v239 rv239 xv239 => ?_)
                clear xv239
                refine g_bipush (n := 74) X dX7_readNumber_72 (by decide +kernel) rfl ?_
                refine g_isubA (n := 75) X dX7_readNumber_74 rfl (fun v240 rv240 xv240 => ?_)
                clear xv240
                refine g_istore_n (n := 76) (L' := [(2, gJ v240), (0, gA n0 159), (1, gJ a), (3, gJ v2)]) X dX7_readNumber_75 rfl (by decide) rfl rfl ?_
                refine g_iinc (n := 79) (w := v2 + 1) (L' := [(3, gJ (v2 + 1)), (2, gJ v240), (0, gA n0 159), (1, gJ a)]) X 3 dX7_readNumber_76 rfl rfl (by decide) rfl rfl ?_
                refine g_aload_n (n := 80) X 2 dX7_readNumber_79 rfl rfl rfl ?_
                refine g_dup (n := 81) X dX7_readNumber_80 rfl rfl ?_
                refine gg_7_2 (n := 84) (z := v228) X (by decide) (gsz hsz (by decide)) lay_159 kw_2_213 dX7_readNumber_81 rfl hv228 ?_
                refine g_iconst (n := 85) X dX7_readNumber_84 rfl ?_
                refine g_iadd (n := 86) (z := v228 + 1) X dX7_readNumber_85 (by omega) rfl ?_
                refine gp_7_2 (n := 89) X (by decide) (gsz hsz (by decide)) lay_159 kw_2_213 dX7_readNumber_86 rfl ?_
                refine G.nm (fun M241 e242 => ?_)
                have IM241 : gI sz M241 := gI.set IM3 rc_159_2.1 (by omega) e242
                have CM241 : gC sz M241 := gC.set CM3 rc_159_2.2.1 e242
                refine g_goto (tgt := 4) X dX7_readNumber_89 (by decide) ?_
                refine G.sub (L' := [(0, gA n0 159), (1, gJ a), (2, gJ v240), (3, gJ (v2 + 1))]) [2, 3, 1, 0] rfl ?_
                exact ih224 v240 (v2 + 1) M241 (by omega) (by omega) IM241 CM241 (gFr.s (gFr.c gFr.rf FM3 rfl) e242 rc_159_2.2.2 rfl) (by omega)
              · refine g_iload_n (n := 53) X 2 dX7_readNumber_52 rfl rfl rfl ?_
                refine g_if_ne (n := 56) (tgt := 58) X dX7_readNumber_53 (by decide) (by omega) rfl (fun c243 => ?_) (fun c243 => ?_)
                · refine g_bipush (n := 60) X dX7_readNumber_58 (by decide +kernel) rfl ?_
                  refine g_iload_n (n := 61) X 2 dX7_readNumber_60 rfl rfl rfl ?_
                  refine g_imulA (n := 62) X dX7_readNumber_61 rfl (fun v244 rv244 xv244 => ?_)
                  clear xv244
                  refine g_aload_n (n := 63) X 0 dX7_readNumber_62 rfl rfl rfl ?_
                  refine gg_7_0 (n := 66) (z := o + 1) X (by decide) (gsz hsz (by decide)) lay_159 kw_2_211 dX7_readNumber_63 rfl ((gFr.at FM3 rc_159_0.2.2 rfl).trans ht) (by omega) ?_
                  refine g_aload_n (n := 67) X 0 dX7_readNumber_66 rfl rfl rfl ?_
                  refine gg_7_2 (n := 70) (z := v228) X (by decide) (gsz hsz (by decide)) lay_159 kw_2_213 dX7_readNumber_67 rfl hv228 ?_
                  refine g_bald2 (n := 71) (v := v232) X (A1o0 r_o) (A1osz hsz r_o) (lay2_A1 r_o) (by omega) (by omega) (by decide) dX7_readNumber_70 rfl hv232 ?_
                  refine g_iaddA (n := 72) X dX7_readNumber_71 rfl (fun v245 rv245 xv245 => ?_)
                  clear xv245
                  refine g_bipush (n := 74) X dX7_readNumber_72 (by decide +kernel) rfl ?_
                  refine g_isubA (n := 75) X dX7_readNumber_74 rfl (fun v246 rv246 xv246 => ?_)
                  clear xv246
                  refine g_istore_n (n := 76) (L' := [(2, gJ v246), (0, gA n0 159), (1, gJ a), (3, gJ v2)]) X dX7_readNumber_75 rfl (by decide) rfl rfl ?_
                  refine g_iinc (n := 79) (w := v2 + 1) (L' := [(3, gJ (v2 + 1)), (2, gJ v246), (0, gA n0 159), (1, gJ a)]) X 3 dX7_readNumber_76 rfl rfl (by decide) rfl rfl ?_
                  refine g_aload_n (n := 80) X 2 dX7_readNumber_79 rfl rfl rfl ?_
                  refine g_dup (n := 81) X dX7_readNumber_80 rfl rfl ?_
                  refine gg_7_2 (n := 84) (z := v228) X (by decide) (gsz hsz (by decide)) lay_159 kw_2_213 dX7_readNumber_81 rfl hv228 ?_
                  refine g_iconst (n := 85) X dX7_readNumber_84 rfl ?_
                  refine g_iadd (n := 86) (z := v228 + 1) X dX7_readNumber_85 (by omega) rfl ?_
                  refine gp_7_2 (n := 89) X (by decide) (gsz hsz (by decide)) lay_159 kw_2_213 dX7_readNumber_86 rfl ?_
                  refine G.nm (fun M247 e248 => ?_)
                  have IM247 : gI sz M247 := gI.set IM3 rc_159_2.1 (by omega) e248
                  have CM247 : gC sz M247 := gC.set CM3 rc_159_2.2.1 e248
                  refine g_goto (tgt := 4) X dX7_readNumber_89 (by decide) ?_
                  refine G.sub (L' := [(0, gA n0 159), (1, gJ a), (2, gJ v246), (3, gJ (v2 + 1))]) [2, 3, 1, 0] rfl ?_
                  exact ih224 v246 (v2 + 1) M247 (by omega) (by omega) IM247 CM247 (gFr.s (gFr.c gFr.rf FM3 rfl) e248 rc_159_2.2.2 rfl) (by omega)
                · refine g_iload_n (n := 57) X 2 dX7_readNumber_56 rfl rfl rfl ?_
                  exact hq _ _ _ _ dX7_readNumber_57 ⟨by omega, IM3, CM3, (gFr.c gFr.rf FM3 rfl)⟩
  refine G.sub (L' := [(0, gA n0 159), (1, gJ a), (2, gJ 0), (3, gJ 0)]) [2, 3, 1, 0] rfl ?_
  exact j4 _ 0 0 M (by omega) (by omega) I C gFr.rf (Nat.lt_succ_self _)
theorem dX7_readSign_0 : decode cX7_readSign 0 = .ok (.iconst 0, 1) := dc_3 (by decide +kernel)
theorem dX7_readSign_1 : decode cX7_readSign 1 = .ok (.istore_n 2, 1) := dc_61 (by decide +kernel)
theorem dX7_readSign_2 : decode cX7_readSign 2 = .ok (.iload_n 2, 1) := dc_28 (by decide +kernel)
theorem dX7_readSign_3 : decode cX7_readSign 3 = .ok (.aload_n 1, 1) := dc_43 (by decide +kernel)
theorem dX7_readSign_4 : decode cX7_readSign 4 = .ok (.invokevirtual 54, 3) := dc_182 0 54 (by decide +kernel)
theorem kw_3_235 : (Jvm.Cond.methodLink "ParishUnion$Reader" (54 : Nat) ({ cls := "java/lang/String", name := "length", desc := "()I" } : Jvm.MethodName)) ∈ gT := gT_of (tb_3 _ (List.mem_of_getElem? (i := 235) rfl)) rfl
theorem kw_3_236 : (Jvm.Cond.instanceMethod ({ cls := "java/lang/String", name := "length", desc := "()I" } : Jvm.MethodName)) ∈ gT := gT_of (tb_3 _ (List.mem_of_getElem? (i := 236) rfl)) rfl
theorem kw_3_237 : (Jvm.Cond.selects "java/lang/String" ({ cls := "java/lang/String", name := "length", desc := "()I" } : Jvm.MethodName) ({ cls := "java/lang/String", name := "length", desc := "()I" } : Jvm.MethodName)) ∈ gT := gT_of (tb_3 _ (List.mem_of_getElem? (i := 237) rfl)) rfl
theorem dX7_readSign_7 : decode cX7_readSign 7 = .ok (.if_icmp .ge 23, 3) := dc_162 0 23 23 (by decide +kernel)
theorem dX7_readSign_30 : decode cX7_readSign 30 = .ok (.iconst (-1), 1) := dc_2 (by decide +kernel)
theorem dX7_readSign_31 : decode cX7_readSign 31 = .ok (.ireturn, 1) := dc_172 (by decide +kernel)
theorem dX7_readSign_10 : decode cX7_readSign 10 = .ok (.aload_n 0, 1) := dc_42 (by decide +kernel)
theorem dX7_readSign_11 : decode cX7_readSign 11 = .ok (.aload_n 1, 1) := dc_43 (by decide +kernel)
theorem dX7_readSign_12 : decode cX7_readSign 12 = .ok (.iload_n 2, 1) := dc_28 (by decide +kernel)
theorem dX7_readSign_13 : decode cX7_readSign 13 = .ok (.invokevirtual 59, 3) := dc_182 0 59 (by decide +kernel)
theorem kw_4_5 : (Jvm.Cond.methodLink "ParishUnion$Reader" (59 : Nat) ({ cls := "java/lang/String", name := "charAt", desc := "(I)C" } : Jvm.MethodName)) ∈ gT := gT_of (tb_4 _ (List.mem_of_getElem? (i := 5) rfl)) rfl
theorem kw_4_6 : (Jvm.Cond.instanceMethod ({ cls := "java/lang/String", name := "charAt", desc := "(I)C" } : Jvm.MethodName)) ∈ gT := gT_of (tb_4 _ (List.mem_of_getElem? (i := 6) rfl)) rfl
theorem kw_4_7 : (Jvm.Cond.selects "java/lang/String" ({ cls := "java/lang/String", name := "charAt", desc := "(I)C" } : Jvm.MethodName) ({ cls := "java/lang/String", name := "charAt", desc := "(I)C" } : Jvm.MethodName)) ∈ gT := gT_of (tb_4 _ (List.mem_of_getElem? (i := 7) rfl)) rfl
theorem dX7_readSign_16 : decode cX7_readSign 16 = .ok (.invokevirtual 30, 3) := dc_182 0 30 (by decide +kernel)
theorem kw_4_44 : (Jvm.Cond.methodLink "ParishUnion$Reader" (30 : Nat) ({ cls := "ParishUnion$Reader", name := "skip", desc := "(C)Z" } : Jvm.MethodName)) ∈ gT := gT_of (tb_4 _ (List.mem_of_getElem? (i := 44) rfl)) rfl
theorem kw_4_47 : (Jvm.Cond.code ({ cls := "ParishUnion$Reader", name := "skip", desc := "(C)Z" } : Jvm.MethodName) prog_9_method_11_code (2 : Nat) (Option.some Jvm.ClassFile.FieldType.boolean)) ∈ gT := gT_of (tb_4 _ (List.mem_of_getElem? (i := 47) rfl)) rfl
theorem kw_1_12 : (Jvm.Cond.initialized "ParishUnion$Reader") ∈ gT := gT_of (tb_1 _ (List.mem_of_getElem? (i := 12) rfl)) rfl
theorem okX7_skip : gQok yX7_skip cX7_skip 2 (Option.some Jvm.ClassFile.FieldType.boolean) 1 := ⟨kw_4_47, kw_1_12, by decide +kernel, by decide +kernel, by decide +kernel⟩
theorem kw_4_46 : (Jvm.Cond.instanceMethod ({ cls := "ParishUnion$Reader", name := "skip", desc := "(C)Z" } : Jvm.MethodName)) ∈ gT := gT_of (tb_4 _ (List.mem_of_getElem? (i := 46) rfl)) rfl
theorem kw_0_9 : (Jvm.Cond.selects "ParishUnion$Reader" ({ cls := "ParishUnion$Reader", name := "skip", desc := "(C)Z" } : Jvm.MethodName) ({ cls := "ParishUnion$Reader", name := "skip", desc := "(C)Z" } : Jvm.MethodName)) ∈ gT := gT_of (tb_0 _ (List.mem_of_getElem? (i := 9) rfl)) rfl
theorem dX7_readSign_19 : decode cX7_readSign 19 = .ok (.ifCond .eq 5, 3) := dc_153 0 5 5 (by decide +kernel)
theorem dX7_readSign_24 : decode cX7_readSign 24 = .ok (.iinc 2 1, 3) := dc_132 2 1 1 (by decide +kernel)
theorem dX7_readSign_27 : decode cX7_readSign 27 = .ok (.goto (-25), 3) := dc_167 255 231 (-25) (by decide +kernel)
theorem dX7_readSign_22 : decode cX7_readSign 22 = .ok (.iload_n 2, 1) := dc_28 (by decide +kernel)
theorem dX7_readSign_23 : decode cX7_readSign 23 = .ok (.ireturn, 1) := dc_172 (by decide +kernel)
abbrev R_X7_readSign : Room := { frames := 4, cells := 0, slots := 0, locals := 85 }
set_option maxRecDepth 100000 in
set_option maxHeartbeats 4000000 in
theorem s_X7_readSign {l : Launch} {n0 : Nat} {D : va_G} {cA : Nat → ClassId} {M : gM} (a : Int) (r_a : 0 ≤ a ∧ a ≤ 25) (o : Int) (r_o : 87 ≤ o ∧ o ≤ 147 ∧ (o - 87) % 6 = 0) {sz : Nat} (hsz : 206 ≤ sz) (I : gI sz M) (C : gC sz M) (ht : M 159 0 = o + 1 + 1)  : Met l yX7_readSign (gWsOf yX7_readSign cX7_readSign 3 (Option.some Jvm.ClassFile.FieldType.int)) R_X7_readSign (gPc n0 D cA [gA n0 159, .ref (cA (100 + (a).toNat))] M sz) (gQi n0 D cA sz (fun z M1 => (-1 ≤ z ∧ z ≤ 9) ∧ gI sz M1 ∧ gC sz M1 ∧ gFr 536870912 M M1 ∧ (z < gSL a))) 0 0 (fun q => n0 ≤ q) := by
  refine gMetI [gA n0 159, .ref (cA (100 + (a).toNat))] (by decide) (Nat.le_of_ble_eq_true rfl) ⟨rfl, rfl⟩ ?_
  intro p e s m args below meth cd Q X hq
  have X : gCx p s m args meth cd n0 D cA "ParishUnion$Reader" cX7_readSign 3 := X
  show G p l e R_X7_readSign s m args below meth cd n0 D cA 3 Q 0 0 M sz 0 [(0, gA n0 159), (1, .ref (cA (100 + (a).toNat)))] []
  refine g_iconst (n := 1) X dX7_readSign_0 rfl ?_
  refine g_istore_n (n := 2) (L' := [(2, gJ 0), (0, gA n0 159), (1, .ref (cA (100 + (a).toNat)))]) X dX7_readSign_1 rfl (by decide) rfl rfl ?_
  have j3 : ∀ (N69 : Nat) (v1 : Int) (M2 : gM) , (0 ≤ v1 ∧ v1 ≤ 10) → gI sz M2 → gC sz M2 → gFr 536870912 M M2 → (10 - v1).toNat < N69 → G p l e R_X7_readSign s m args below meth cd n0 D cA 3 Q 0 0 M2 sz 2 [(0, gA n0 159), (1, .ref (cA (100 + (a).toNat))), (2, gJ v1)] [] := by
    intro N69; induction N69 with
    | zero => intro v1 M2 rv1 IM2 CM2 FM2 hm71; exfalso; omega
    | succ N69 ih70 =>
      intro v1 M2 rv1 IM2 CM2 FM2 hm71
      refine g_iload_n (n := 3) X 2 dX7_readSign_2 rfl rfl rfl ?_
      refine g_aload_n (n := 4) X 1 dX7_readSign_3 rfl rfl rfl ?_
      obtain ⟨q72, hq72⟩ := gSO_at (z := a) (by omega)
      refine g_callSt (n := 7) (As := []) (rest := [gJ v1]) (cs1 := 0) (ss1 := 0) X (a).toNat hq72 (s_J_len a (by omega)) okJ_len kw_3_235 ⟨kw_3_236, kw_3_237⟩ ⟨rfl, rfl⟩ ⟨Nat.le_of_ble_eq_true rfl, Nat.le_of_ble_eq_true rfl⟩ rfl rfl (Nat.le_of_ble_eq_true rfl) ⟨Nat.le_of_ble_eq_true rfl, Nat.le_of_ble_eq_true rfl⟩ rfl rfl dX7_readSign_4 rfl (fun v73 M74 P75 => ?_)
      obtain ⟨rfl, rv73, xv73⟩ := P75
      refine g_icmp_ge (n := 10) (tgt := 30) X dX7_readSign_7 (by decide) (by omega) (by omega) rfl (fun c76 => ?_) (fun c76 => ?_)
      · refine g_iconst (n := 31) X dX7_readSign_30 rfl ?_
        exact hq _ _ _ _ dX7_readSign_31 ⟨by omega, IM2, CM2, (gFr.c gFr.rf FM2 rfl), by omega⟩
      · refine g_aload_n (n := 11) X 0 dX7_readSign_10 rfl rfl rfl ?_
        refine g_aload_n (n := 12) X 1 dX7_readSign_11 rfl rfl rfl ?_
        refine g_iload_n (n := 13) X 2 dX7_readSign_12 rfl rfl rfl ?_
        obtain ⟨q77, hq77⟩ := gSO_at (z := a) (by omega)
        refine g_callSt (n := 16) (As := [gJ v1]) (rest := [gA n0 159]) (cs1 := 0) (ss1 := 0) X (a).toNat hq77 (s_J_chr a (by omega) v1 (by omega) (by omega)) okJ_chr kw_4_5 ⟨kw_4_6, kw_4_7⟩ ⟨rfl, rfl⟩ ⟨Nat.le_of_ble_eq_true rfl, Nat.le_of_ble_eq_true rfl⟩ rfl rfl (Nat.le_of_ble_eq_true rfl) ⟨Nat.le_of_ble_eq_true rfl, Nat.le_of_ble_eq_true rfl⟩ rfl rfl dX7_readSign_13 rfl (fun v78 M79 P80 => ?_)
        obtain ⟨rfl, rv78, xv78⟩ := P80
        refine g_callVi (n := 19) (As := [gJ v78]) (rest := []) (cs1 := 0) (ss1 := 0) X (s_X7_skip v78 (by omega) o r_o hsz IM2 CM2 ((gFr.at FM2 rc_159_0.2.2 rfl).trans ht)) okX7_skip kw_4_44 ⟨kw_4_46, kw_0_9⟩ ⟨rfl, rfl⟩ ⟨Nat.le_of_ble_eq_true rfl, Nat.le_of_ble_eq_true rfl⟩ rfl (by decide) (gsz hsz (by decide)) lay_159 rfl rfl (Nat.le_of_ble_eq_true rfl) ⟨Nat.le_of_ble_eq_true rfl, Nat.le_of_ble_eq_true rfl⟩ rfl rfl dX7_readSign_16 rfl (fun v81 M82 P83 => ?_)
        obtain ⟨rv81, IM82, CM82, FM82⟩ := P83
        refine g_if_eq (n := 22) (tgt := 24) X dX7_readSign_19 (by decide) (by omega) rfl (fun c84 => ?_) (fun c84 => ?_)
        · refine g_iinc (n := 27) (w := v1 + 1) (L' := [(2, gJ (v1 + 1)), (0, gA n0 159), (1, .ref (cA (100 + (a).toNat)))]) X 2 dX7_readSign_24 rfl rfl (by decide) rfl rfl ?_
          refine g_goto (tgt := 2) X dX7_readSign_27 (by decide) ?_
          refine G.sub (L' := [(0, gA n0 159), (1, .ref (cA (100 + (a).toNat))), (2, gJ (v1 + 1))]) [1, 2, 0] rfl ?_
          exact ih70 (v1 + 1) M82 (by omega) IM82 CM82 (gFr.c (gFr.c gFr.rf FM2 rfl) FM82 rfl) (by omega)
        · refine g_iload_n (n := 23) X 2 dX7_readSign_22 rfl rfl rfl ?_
          exact hq _ _ _ _ dX7_readSign_23 ⟨by omega, IM82, CM82, (gFr.c (gFr.c gFr.rf FM2 rfl) FM82 rfl), by omega⟩
  refine G.sub (L' := [(0, gA n0 159), (1, .ref (cA (100 + (a).toNat))), (2, gJ 0)]) [1, 2, 0] rfl ?_
  exact j3 _ 0 M (by omega) I C gFr.rf (Nat.lt_succ_self _)
theorem dX7_readWord_0 : decode cX7_readWord 0 = .ok (.iconst 0, 1) := dc_3 (by decide +kernel)
theorem dX7_readWord_1 : decode cX7_readWord 1 = .ok (.istore_n 1, 1) := dc_60 (by decide +kernel)
theorem dX7_readWord_2 : decode cX7_readWord 2 = .ok (.iconst 0, 1) := dc_3 (by decide +kernel)
theorem dX7_readWord_3 : decode cX7_readWord 3 = .ok (.istore_n 2, 1) := dc_61 (by decide +kernel)
theorem dX7_readWord_4 : decode cX7_readWord 4 = .ok (.iload_n 2, 1) := dc_28 (by decide +kernel)
theorem dX7_readWord_5 : decode cX7_readWord 5 = .ok (.bipush 10, 2) := dc_16 10 10 (by decide +kernel)
theorem dX7_readWord_7 : decode cX7_readWord 7 = .ok (.if_icmp .ge 96, 3) := dc_162 0 96 96 (by decide +kernel)
theorem dX7_readWord_10 : decode cX7_readWord 10 = .ok (.iload_n 2, 1) := dc_28 (by decide +kernel)
theorem dX7_readWord_11 : decode cX7_readWord 11 = .ok (.invokestatic 50, 3) := dc_184 0 50 (by decide +kernel)
theorem kw_3_224 : (Jvm.Cond.code ({ cls := "ParishUnion$Reader", name := "nameOf", desc := "(I)Ljava/lang/String;" } : Jvm.MethodName) prog_9_method_5_code (1 : Nat) (Option.some (Jvm.ClassFile.FieldType.object "java/lang/String"))) ∈ gT := gT_of (tb_3 _ (List.mem_of_getElem? (i := 224) rfl)) rfl
theorem okX7_nameOf : gQok yX7_nameOf cX7_nameOf 1 (Option.some (Jvm.ClassFile.FieldType.object "java/lang/String")) 1 := ⟨kw_3_224, kw_1_12, by decide +kernel, by decide +kernel, by decide +kernel⟩
theorem kw_3_222 : (Jvm.Cond.methodLink "ParishUnion$Reader" (50 : Nat) ({ cls := "ParishUnion$Reader", name := "nameOf", desc := "(I)Ljava/lang/String;" } : Jvm.MethodName)) ∈ gT := gT_of (tb_3 _ (List.mem_of_getElem? (i := 222) rfl)) rfl
theorem kw_3_223 : (Jvm.Cond.static ({ cls := "ParishUnion$Reader", name := "nameOf", desc := "(I)Ljava/lang/String;" } : Jvm.MethodName)) ∈ gT := gT_of (tb_3 _ (List.mem_of_getElem? (i := 223) rfl)) rfl
theorem dX7_readWord_14 : decode cX7_readWord 14 = .ok (.astore_n 3, 1) := dc_78 (by decide +kernel)
theorem dX7_readWord_15 : decode cX7_readWord 15 = .ok (.iconst 0, 1) := dc_3 (by decide +kernel)
theorem dX7_readWord_16 : decode cX7_readWord 16 = .ok (.istore 4, 2) := dc_54 4 (by decide +kernel)
theorem dX7_readWord_18 : decode cX7_readWord 18 = .ok (.iload 4, 2) := dc_21 4 (by decide +kernel)
theorem dX7_readWord_20 : decode cX7_readWord 20 = .ok (.aload_n 3, 1) := dc_45 (by decide +kernel)
theorem dX7_readWord_21 : decode cX7_readWord 21 = .ok (.invokevirtual 54, 3) := dc_182 0 54 (by decide +kernel)
theorem dX7_readWord_24 : decode cX7_readWord 24 = .ok (.if_icmp .ge 44, 3) := dc_162 0 44 44 (by decide +kernel)
theorem dX7_readWord_68 : decode cX7_readWord 68 = .ok (.iload 4, 2) := dc_21 4 (by decide +kernel)
theorem dX7_readWord_70 : decode cX7_readWord 70 = .ok (.aload_n 3, 1) := dc_45 (by decide +kernel)
theorem dX7_readWord_71 : decode cX7_readWord 71 = .ok (.invokevirtual 54, 3) := dc_182 0 54 (by decide +kernel)
theorem dX7_readWord_74 : decode cX7_readWord 74 = .ok (.if_icmp .ne 16, 3) := dc_160 0 16 16 (by decide +kernel)
theorem dX7_readWord_90 : decode cX7_readWord 90 = .ok (.iload_n 1, 1) := dc_27 (by decide +kernel)
theorem dX7_readWord_91 : decode cX7_readWord 91 = .ok (.iload 4, 2) := dc_21 4 (by decide +kernel)
theorem dX7_readWord_93 : decode cX7_readWord 93 = .ok (.invokestatic 63, 3) := dc_184 0 63 (by decide +kernel)
theorem kw_4_43 : (Jvm.Cond.methodLink "ParishUnion$Reader" (63 : Nat) ({ cls := "java/lang/Math", name := "max", desc := "(II)I" } : Jvm.MethodName)) ∈ gT := gT_of (tb_4 _ (List.mem_of_getElem? (i := 43) rfl)) rfl
theorem dX7_readWord_96 : decode cX7_readWord 96 = .ok (.istore_n 1, 1) := dc_60 (by decide +kernel)
theorem dX7_readWord_97 : decode cX7_readWord 97 = .ok (.iinc 2 1, 3) := dc_132 2 1 1 (by decide +kernel)
theorem dX7_readWord_100 : decode cX7_readWord 100 = .ok (.goto (-96), 3) := dc_167 255 160 (-96) (by decide +kernel)
theorem dX7_readWord_77 : decode cX7_readWord 77 = .ok (.aload_n 0, 1) := dc_42 (by decide +kernel)
theorem dX7_readWord_78 : decode cX7_readWord 78 = .ok (.dup, 1) := dc_89 (by decide +kernel)
theorem dX7_readWord_79 : decode cX7_readWord 79 = .ok (.getfield 23, 3) := dc_180 0 23 (by decide +kernel)
theorem dX7_readWord_82 : decode cX7_readWord 82 = .ok (.iload 4, 2) := dc_21 4 (by decide +kernel)
theorem dX7_readWord_84 : decode cX7_readWord 84 = .ok (.iadd, 1) := dc_96 (by decide +kernel)
theorem dX7_readWord_85 : decode cX7_readWord 85 = .ok (.putfield 23, 3) := dc_181 0 23 (by decide +kernel)
theorem dX7_readWord_88 : decode cX7_readWord 88 = .ok (.iload_n 2, 1) := dc_28 (by decide +kernel)
theorem dX7_readWord_89 : decode cX7_readWord 89 = .ok (.ireturn, 1) := dc_172 (by decide +kernel)
theorem dX7_readWord_27 : decode cX7_readWord 27 = .ok (.aload_n 0, 1) := dc_42 (by decide +kernel)
theorem dX7_readWord_28 : decode cX7_readWord 28 = .ok (.getfield 23, 3) := dc_180 0 23 (by decide +kernel)
theorem dX7_readWord_31 : decode cX7_readWord 31 = .ok (.iload 4, 2) := dc_21 4 (by decide +kernel)
theorem dX7_readWord_33 : decode cX7_readWord 33 = .ok (.iadd, 1) := dc_96 (by decide +kernel)
theorem dX7_readWord_34 : decode cX7_readWord 34 = .ok (.aload_n 0, 1) := dc_42 (by decide +kernel)
theorem dX7_readWord_35 : decode cX7_readWord 35 = .ok (.getfield 22, 3) := dc_180 0 22 (by decide +kernel)
theorem dX7_readWord_38 : decode cX7_readWord 38 = .ok (.if_icmp .ge 30, 3) := dc_162 0 30 30 (by decide +kernel)
theorem dX7_readWord_41 : decode cX7_readWord 41 = .ok (.aload_n 0, 1) := dc_42 (by decide +kernel)
theorem dX7_readWord_42 : decode cX7_readWord 42 = .ok (.getfield 9, 3) := dc_180 0 9 (by decide +kernel)
theorem dX7_readWord_45 : decode cX7_readWord 45 = .ok (.aload_n 0, 1) := dc_42 (by decide +kernel)
theorem dX7_readWord_46 : decode cX7_readWord 46 = .ok (.getfield 23, 3) := dc_180 0 23 (by decide +kernel)
theorem dX7_readWord_49 : decode cX7_readWord 49 = .ok (.iload 4, 2) := dc_21 4 (by decide +kernel)
theorem dX7_readWord_51 : decode cX7_readWord 51 = .ok (.iadd, 1) := dc_96 (by decide +kernel)
theorem dX7_readWord_52 : decode cX7_readWord 52 = .ok (.baload, 1) := dc_51 (by decide +kernel)
theorem dX7_readWord_53 : decode cX7_readWord 53 = .ok (.aload_n 3, 1) := dc_45 (by decide +kernel)
theorem dX7_readWord_54 : decode cX7_readWord 54 = .ok (.iload 4, 2) := dc_21 4 (by decide +kernel)
theorem dX7_readWord_56 : decode cX7_readWord 56 = .ok (.invokevirtual 59, 3) := dc_182 0 59 (by decide +kernel)
theorem dX7_readWord_59 : decode cX7_readWord 59 = .ok (.if_icmp .ne 9, 3) := dc_160 0 9 9 (by decide +kernel)
theorem dX7_readWord_62 : decode cX7_readWord 62 = .ok (.iinc 4 1, 3) := dc_132 4 1 1 (by decide +kernel)
theorem dX7_readWord_65 : decode cX7_readWord 65 = .ok (.goto (-47), 3) := dc_167 255 209 (-47) (by decide +kernel)
theorem dX7_readWord_103 : decode cX7_readWord 103 = .ok (.aload_n 0, 1) := dc_42 (by decide +kernel)
theorem dX7_readWord_104 : decode cX7_readWord 104 = .ok (.dup, 1) := dc_89 (by decide +kernel)
theorem dX7_readWord_105 : decode cX7_readWord 105 = .ok (.getfield 23, 3) := dc_180 0 23 (by decide +kernel)
theorem dX7_readWord_108 : decode cX7_readWord 108 = .ok (.iload_n 1, 1) := dc_27 (by decide +kernel)
theorem dX7_readWord_109 : decode cX7_readWord 109 = .ok (.iadd, 1) := dc_96 (by decide +kernel)
theorem dX7_readWord_110 : decode cX7_readWord 110 = .ok (.putfield 23, 3) := dc_181 0 23 (by decide +kernel)
theorem dX7_readWord_113 : decode cX7_readWord 113 = .ok (.iconst (-1), 1) := dc_2 (by decide +kernel)
theorem dX7_readWord_114 : decode cX7_readWord 114 = .ok (.ireturn, 1) := dc_172 (by decide +kernel)
abbrev R_X7_readWord : Room := { frames := 4, cells := 0, slots := 0, locals := 120 }
set_option maxRecDepth 100000 in
set_option maxHeartbeats 4000000 in
theorem s_X7_readWord {l : Launch} {n0 : Nat} {D : va_G} {cA : Nat → ClassId} {M : gM} (o : Int) (r_o : 87 ≤ o ∧ o ≤ 147 ∧ (o - 87) % 6 = 0) {sz : Nat} (hsz : 206 ≤ sz) (I : gI sz M) (C : gC sz M) (ht : M 159 0 = o + 1 + 1)  : Met l yX7_readWord (gWsOf yX7_readWord cX7_readWord 5 (Option.some Jvm.ClassFile.FieldType.int)) R_X7_readWord (gPc n0 D cA [gA n0 159] M sz) (gQi n0 D cA sz (fun z M1 => (-1 ≤ z ∧ z ≤ 9) ∧ gI sz M1 ∧ gC sz M1 ∧ gFr 536870912 M M1)) 0 0 (fun q => n0 ≤ q) := by
  refine gMetI [gA n0 159] (by decide) (Nat.le_of_ble_eq_true rfl) ⟨rfl, rfl⟩ ?_
  intro p e s m args below meth cd Q X hq
  have X : gCx p s m args meth cd n0 D cA "ParishUnion$Reader" cX7_readWord 5 := X
  show G p l e R_X7_readWord s m args below meth cd n0 D cA 5 Q 0 0 M sz 0 [(0, gA n0 159)] []
  obtain ⟨v1, hv1, rv1⟩ := gRd I (by decide) (gsz hsz (by decide)) rc_159_2.1
  refine g_iconst (n := 1) X dX7_readWord_0 rfl ?_
  refine g_istore_n (n := 2) (L' := [(1, gJ 0), (0, gA n0 159)]) X dX7_readWord_1 rfl (by decide) rfl rfl ?_
  refine g_iconst (n := 3) X dX7_readWord_2 rfl ?_
  refine g_istore_n (n := 4) (L' := [(2, gJ 0), (1, gJ 0), (0, gA n0 159)]) X dX7_readWord_3 rfl (by decide) rfl rfl ?_
  have j5 : ∀ (N1168 : Nat) (v2 v3 : Int) , (0 ≤ v2 ∧ v2 ≤ 10) → (0 ≤ v3 ∧ v3 ≤ 10) → (M 159 2 + v2 ≤ 150) → (10 - v3).toNat < N1168 → G p l e R_X7_readWord s m args below meth cd n0 D cA 5 Q 0 0 M sz 4 [(0, gA n0 159), (1, gJ v2), (2, gJ v3)] [] := by
    intro N1168; induction N1168 with
    | zero => intro v2 v3 rv2 rv3 hl hm1170; exfalso; omega
    | succ N1168 ih1169 =>
      intro v2 v3 rv2 rv3 hl hm1170
      refine g_iload_n (n := 5) X 2 dX7_readWord_4 rfl rfl rfl ?_
      refine g_bipush (n := 7) X dX7_readWord_5 (by decide +kernel) rfl ?_
      refine g_icmp_ge (n := 10) (tgt := 103) X dX7_readWord_7 (by decide) (by omega) (by omega) rfl (fun c1171 => ?_) (fun c1171 => ?_)
      · refine g_aload_n (n := 104) X 0 dX7_readWord_103 rfl rfl rfl ?_
        refine g_dup (n := 105) X dX7_readWord_104 rfl rfl ?_
        refine gg_7_2 (n := 108) (z := v1) X (by decide) (gsz hsz (by decide)) lay_159 kw_2_213 dX7_readWord_105 rfl hv1 ?_
        refine g_iload_n (n := 109) X 1 dX7_readWord_108 rfl rfl rfl ?_
        refine g_iadd (n := 110) (z := v1 + v2) X dX7_readWord_109 rfl rfl ?_
        refine gp_7_2 (n := 113) X (by decide) (gsz hsz (by decide)) lay_159 kw_2_213 dX7_readWord_110 rfl ?_
        refine G.nm (fun M1172 e1173 => ?_)
        have IM1172 : gI sz M1172 := gI.set I rc_159_2.1 (by omega) e1173
        have CM1172 : gC sz M1172 := gC.set C rc_159_2.2.1 e1173
        refine g_iconst (n := 114) X dX7_readWord_113 rfl ?_
        exact hq _ _ _ _ dX7_readWord_114 ⟨by omega, IM1172, CM1172, (gFr.s gFr.rf e1173 rc_159_2.2.2 rfl)⟩
      · refine g_iload_n (n := 11) X 2 dX7_readWord_10 rfl rfl rfl ?_
        refine g_callSs (n := 14) (As := [gJ v3]) (rest := []) (cs1 := 0) (ss1 := 0) X (c_X7_nameOf v3 (by omega) (by omega)) okX7_nameOf kw_3_222 kw_3_223 ⟨rfl, rfl⟩ ⟨Nat.le_of_ble_eq_true rfl, Nat.le_of_ble_eq_true rfl⟩ rfl rfl (Nat.le_of_ble_eq_true rfl) ⟨Nat.le_of_ble_eq_true rfl, Nat.le_of_ble_eq_true rfl⟩ rfl rfl dX7_readWord_11 rfl (fun v1174 M1175 P1176 => ?_)
        obtain ⟨rfl, xv1174⟩ := P1176
        refine g_astore_n (n := 15) (L' := [(3, .ref (cA (100 + (v1174).toNat))), (0, gA n0 159), (1, gJ v2), (2, gJ v3)]) X dX7_readWord_14 rfl (by decide) rfl rfl ?_
        refine g_iconst (n := 16) X dX7_readWord_15 rfl ?_
        refine g_istore (n := 18) (L' := [(4, gJ 0), (3, .ref (cA (100 + (v1174).toNat))), (0, gA n0 159), (1, gJ v2), (2, gJ v3)]) X dX7_readWord_16 (by decide) rfl rfl ?_
        have j1179 : ∀ (N1365 : Nat) (v1177 : Int) , (0 ≤ v1177 ∧ v1177 ≤ 10) → (M 159 2 + v1177 ≤ 150) → (10 - v1177).toNat < N1365 → G p l e R_X7_readWord s m args below meth cd n0 D cA 5 Q 0 0 M sz 18 [(0, gA n0 159), (1, gJ v2), (2, gJ v3), (3, .ref (cA (100 + (v1174).toNat))), (4, gJ v1177)] [] := by
          intro N1365; induction N1365 with
          | zero => intro v1177 rv1177 hs hm1367; exfalso; omega
          | succ N1365 ih1366 =>
            intro v1177 rv1177 hs hm1367
            refine g_iload (n := 20) X 4 dX7_readWord_18 rfl rfl ?_
            refine g_aload_n (n := 21) X 3 dX7_readWord_20 rfl rfl rfl ?_
            obtain ⟨q1368, hq1368⟩ := gSO_at (z := v1174) (by omega)
            refine g_callSt (n := 24) (As := []) (rest := [gJ v1177]) (cs1 := 0) (ss1 := 0) X (v1174).toNat hq1368 (s_J_len v1174 (by omega)) okJ_len kw_3_235 ⟨kw_3_236, kw_3_237⟩ ⟨rfl, rfl⟩ ⟨Nat.le_of_ble_eq_true rfl, Nat.le_of_ble_eq_true rfl⟩ rfl rfl (Nat.le_of_ble_eq_true rfl) ⟨Nat.le_of_ble_eq_true rfl, Nat.le_of_ble_eq_true rfl⟩ rfl rfl dX7_readWord_21 rfl (fun v1369 M1370 P1371 => ?_)
            obtain ⟨rfl, rv1369, xv1369⟩ := P1371
            refine g_icmp_ge (n := 27) (tgt := 68) X dX7_readWord_24 (by decide) (by omega) (by omega) rfl (fun c1372 => ?_) (fun c1372 => ?_)
            · refine g_iload (n := 70) X 4 dX7_readWord_68 rfl rfl ?_
              refine g_aload_n (n := 71) X 3 dX7_readWord_70 rfl rfl rfl ?_
              obtain ⟨q1373, hq1373⟩ := gSO_at (z := v1174) (by omega)
              refine g_callSt (n := 74) (As := []) (rest := [gJ v1177]) (cs1 := 0) (ss1 := 0) X (v1174).toNat hq1373 (s_J_len v1174 (by omega)) okJ_len kw_3_235 ⟨kw_3_236, kw_3_237⟩ ⟨rfl, rfl⟩ ⟨Nat.le_of_ble_eq_true rfl, Nat.le_of_ble_eq_true rfl⟩ rfl rfl (Nat.le_of_ble_eq_true rfl) ⟨Nat.le_of_ble_eq_true rfl, Nat.le_of_ble_eq_true rfl⟩ rfl rfl dX7_readWord_71 rfl (fun v1374 M1375 P1376 => ?_)
              obtain ⟨rfl, rv1374, xv1374⟩ := P1376
              refine g_icmp_ne (n := 77) (tgt := 90) X dX7_readWord_74 (by decide) (by omega) (by omega) rfl (fun c1377 => ?_) (fun c1377 => ?_)
              · refine g_iload_n (n := 91) X 1 dX7_readWord_90 rfl rfl rfl ?_
                refine g_iload (n := 93) X 4 dX7_readWord_91 rfl rfl ?_
                refine g_mmax (n := 96) X kw_4_43 kw_3_153 kw_1_14 kw_3_154 (by omega) (by omega) (Nat.le_of_ble_eq_true rfl) (Nat.le_of_ble_eq_true rfl) (Nat.le_of_ble_eq_true rfl) (Nat.le_of_ble_eq_true rfl) dX7_readWord_93 rfl (fun x1378 hx1378 => ?_)
                have rx1378 : 0 ≤ x1378 ∧ x1378 ≤ 10 := by omega
                refine g_istore_n (n := 97) (L' := [(1, gJ x1378), (0, gA n0 159), (2, gJ v3), (3, .ref (cA (100 + (v1174).toNat))), (4, gJ v1177)]) X dX7_readWord_96 rfl (by decide) rfl rfl ?_
                refine g_iinc (n := 100) (w := v3 + 1) (L' := [(2, gJ (v3 + 1)), (1, gJ x1378), (0, gA n0 159), (3, .ref (cA (100 + (v1174).toNat))), (4, gJ v1177)]) X 2 dX7_readWord_97 rfl rfl (by decide) rfl rfl ?_
                refine g_goto (tgt := 4) X dX7_readWord_100 (by decide) ?_
                refine G.sub (L' := [(0, gA n0 159), (1, gJ x1378), (2, gJ (v3 + 1))]) [2, 1, 0] rfl ?_
                exact ih1169 x1378 (v3 + 1) (by omega) (by omega) (by omega) (by omega)
              · refine g_aload_n (n := 78) X 0 dX7_readWord_77 rfl rfl rfl ?_
                refine g_dup (n := 79) X dX7_readWord_78 rfl rfl ?_
                refine gg_7_2 (n := 82) (z := v1) X (by decide) (gsz hsz (by decide)) lay_159 kw_2_213 dX7_readWord_79 rfl hv1 ?_
                refine g_iload (n := 84) X 4 dX7_readWord_82 rfl rfl ?_
                refine g_iadd (n := 85) (z := v1 + v1177) X dX7_readWord_84 rfl rfl ?_
                refine gp_7_2 (n := 88) X (by decide) (gsz hsz (by decide)) lay_159 kw_2_213 dX7_readWord_85 rfl ?_
                refine G.nm (fun M1379 e1380 => ?_)
                have IM1379 : gI sz M1379 := gI.set I rc_159_2.1 (by omega) e1380
                have CM1379 : gC sz M1379 := gC.set C rc_159_2.2.1 e1380
                refine g_iload_n (n := 89) X 2 dX7_readWord_88 rfl rfl rfl ?_
                exact hq _ _ _ _ dX7_readWord_89 ⟨by omega, IM1379, CM1379, (gFr.s gFr.rf e1380 rc_159_2.2.2 rfl)⟩
            · refine g_aload_n (n := 28) X 0 dX7_readWord_27 rfl rfl rfl ?_
              refine gg_7_2 (n := 31) (z := v1) X (by decide) (gsz hsz (by decide)) lay_159 kw_2_213 dX7_readWord_28 rfl hv1 ?_
              refine g_iload (n := 33) X 4 dX7_readWord_31 rfl rfl ?_
              refine g_iadd (n := 34) (z := v1 + v1177) X dX7_readWord_33 rfl rfl ?_
              refine g_aload_n (n := 35) X 0 dX7_readWord_34 rfl rfl rfl ?_
              obtain ⟨v1381, hv1381, rv1381⟩ := gRd I (by decide) (gsz hsz (by decide)) rc_159_1.1
              refine gg_7_1 (n := 38) (z := v1381) X (by decide) (gsz hsz (by decide)) lay_159 kw_2_212 dX7_readWord_35 rfl hv1381 ?_
              refine g_icmp_ge (n := 41) (tgt := 68) X dX7_readWord_38 (by decide) (by omega) (by omega) rfl (fun c1382 => ?_) (fun c1382 => ?_)
              · refine g_iload (n := 70) X 4 dX7_readWord_68 rfl rfl ?_
                refine g_aload_n (n := 71) X 3 dX7_readWord_70 rfl rfl rfl ?_
                obtain ⟨q1383, hq1383⟩ := gSO_at (z := v1174) (by omega)
                refine g_callSt (n := 74) (As := []) (rest := [gJ v1177]) (cs1 := 0) (ss1 := 0) X (v1174).toNat hq1383 (s_J_len v1174 (by omega)) okJ_len kw_3_235 ⟨kw_3_236, kw_3_237⟩ ⟨rfl, rfl⟩ ⟨Nat.le_of_ble_eq_true rfl, Nat.le_of_ble_eq_true rfl⟩ rfl rfl (Nat.le_of_ble_eq_true rfl) ⟨Nat.le_of_ble_eq_true rfl, Nat.le_of_ble_eq_true rfl⟩ rfl rfl dX7_readWord_71 rfl (fun v1384 M1385 P1386 => ?_)
                obtain ⟨rfl, rv1384, xv1384⟩ := P1386
                refine g_icmp_ne (n := 77) (tgt := 90) X dX7_readWord_74 (by decide) (by omega) (by omega) rfl (fun c1387 => ?_) (fun c1387 => ?_)
                · refine g_iload_n (n := 91) X 1 dX7_readWord_90 rfl rfl rfl ?_
                  refine g_iload (n := 93) X 4 dX7_readWord_91 rfl rfl ?_
                  refine g_mmax (n := 96) X kw_4_43 kw_3_153 kw_1_14 kw_3_154 (by omega) (by omega) (Nat.le_of_ble_eq_true rfl) (Nat.le_of_ble_eq_true rfl) (Nat.le_of_ble_eq_true rfl) (Nat.le_of_ble_eq_true rfl) dX7_readWord_93 rfl (fun x1388 hx1388 => ?_)
                  have rx1388 : 0 ≤ x1388 ∧ x1388 ≤ 10 := by omega
                  refine g_istore_n (n := 97) (L' := [(1, gJ x1388), (0, gA n0 159), (2, gJ v3), (3, .ref (cA (100 + (v1174).toNat))), (4, gJ v1177)]) X dX7_readWord_96 rfl (by decide) rfl rfl ?_
                  refine g_iinc (n := 100) (w := v3 + 1) (L' := [(2, gJ (v3 + 1)), (1, gJ x1388), (0, gA n0 159), (3, .ref (cA (100 + (v1174).toNat))), (4, gJ v1177)]) X 2 dX7_readWord_97 rfl rfl (by decide) rfl rfl ?_
                  refine g_goto (tgt := 4) X dX7_readWord_100 (by decide) ?_
                  refine G.sub (L' := [(0, gA n0 159), (1, gJ x1388), (2, gJ (v3 + 1))]) [2, 1, 0] rfl ?_
                  exact ih1169 x1388 (v3 + 1) (by omega) (by omega) (by omega) (by omega)
                · refine g_aload_n (n := 78) X 0 dX7_readWord_77 rfl rfl rfl ?_
                  refine g_dup (n := 79) X dX7_readWord_78 rfl rfl ?_
                  refine gg_7_2 (n := 82) (z := v1) X (by decide) (gsz hsz (by decide)) lay_159 kw_2_213 dX7_readWord_79 rfl hv1 ?_
                  refine g_iload (n := 84) X 4 dX7_readWord_82 rfl rfl ?_
                  refine g_iadd (n := 85) (z := v1 + v1177) X dX7_readWord_84 rfl rfl ?_
                  refine gp_7_2 (n := 88) X (by decide) (gsz hsz (by decide)) lay_159 kw_2_213 dX7_readWord_85 rfl ?_
                  refine G.nm (fun M1389 e1390 => ?_)
                  have IM1389 : gI sz M1389 := gI.set I rc_159_2.1 (by omega) e1390
                  have CM1389 : gC sz M1389 := gC.set C rc_159_2.2.1 e1390
                  refine g_iload_n (n := 89) X 2 dX7_readWord_88 rfl rfl rfl ?_
                  exact hq _ _ _ _ dX7_readWord_89 ⟨by omega, IM1389, CM1389, (gFr.s gFr.rf e1390 rc_159_2.2.2 rfl)⟩
              · refine g_aload_n (n := 42) X 0 dX7_readWord_41 rfl rfl rfl ?_
                refine gg_7_0 (n := 45) (z := o + 1) X (by decide) (gsz hsz (by decide)) lay_159 kw_2_211 dX7_readWord_42 rfl ht (by omega) ?_
                refine g_aload_n (n := 46) X 0 dX7_readWord_45 rfl rfl rfl ?_
                refine gg_7_2 (n := 49) (z := v1) X (by decide) (gsz hsz (by decide)) lay_159 kw_2_213 dX7_readWord_46 rfl hv1 ?_
                refine g_iload (n := 51) X 4 dX7_readWord_49 rfl rfl ?_
                refine g_iadd (n := 52) (z := v1 + v1177) X dX7_readWord_51 rfl rfl ?_
                obtain ⟨v1391, hv1391, rv1391⟩ := gRd I (A1o0 r_o) (A1osz hsz r_o) (rAA_1 r_o (v1 + v1177)).1
                refine g_bald2 (n := 53) (v := v1391) X (A1o0 r_o) (A1osz hsz r_o) (lay2_A1 r_o) (by omega) (by omega) (by decide) dX7_readWord_52 rfl hv1391 ?_
                refine g_aload_n (n := 54) X 3 dX7_readWord_53 rfl rfl rfl ?_
                refine g_iload (n := 56) X 4 dX7_readWord_54 rfl rfl ?_
                obtain ⟨q1392, hq1392⟩ := gSO_at (z := v1174) (by omega)
                refine g_callSt (n := 59) (As := [gJ v1177]) (rest := [gJ v1391]) (cs1 := 0) (ss1 := 0) X (v1174).toNat hq1392 (s_J_chr v1174 (by omega) v1177 (by omega) (by omega)) okJ_chr kw_4_5 ⟨kw_4_6, kw_4_7⟩ ⟨rfl, rfl⟩ ⟨Nat.le_of_ble_eq_true rfl, Nat.le_of_ble_eq_true rfl⟩ rfl rfl (Nat.le_of_ble_eq_true rfl) ⟨Nat.le_of_ble_eq_true rfl, Nat.le_of_ble_eq_true rfl⟩ rfl rfl dX7_readWord_56 rfl (fun v1393 M1394 P1395 => ?_)
                obtain ⟨rfl, rv1393, xv1393⟩ := P1395
                refine g_icmp_ne (n := 62) (tgt := 68) X dX7_readWord_59 (by decide) (by omega) (by omega) rfl (fun c1396 => ?_) (fun c1396 => ?_)
                · refine g_iload (n := 70) X 4 dX7_readWord_68 rfl rfl ?_
                  refine g_aload_n (n := 71) X 3 dX7_readWord_70 rfl rfl rfl ?_
                  obtain ⟨q1397, hq1397⟩ := gSO_at (z := v1174) (by omega)
                  refine g_callSt (n := 74) (As := []) (rest := [gJ v1177]) (cs1 := 0) (ss1 := 0) X (v1174).toNat hq1397 (s_J_len v1174 (by omega)) okJ_len kw_3_235 ⟨kw_3_236, kw_3_237⟩ ⟨rfl, rfl⟩ ⟨Nat.le_of_ble_eq_true rfl, Nat.le_of_ble_eq_true rfl⟩ rfl rfl (Nat.le_of_ble_eq_true rfl) ⟨Nat.le_of_ble_eq_true rfl, Nat.le_of_ble_eq_true rfl⟩ rfl rfl dX7_readWord_71 rfl (fun v1398 M1399 P1400 => ?_)
                  obtain ⟨rfl, rv1398, xv1398⟩ := P1400
                  refine g_icmp_ne (n := 77) (tgt := 90) X dX7_readWord_74 (by decide) (by omega) (by omega) rfl (fun c1401 => ?_) (fun c1401 => ?_)
                  · refine g_iload_n (n := 91) X 1 dX7_readWord_90 rfl rfl rfl ?_
                    refine g_iload (n := 93) X 4 dX7_readWord_91 rfl rfl ?_
                    refine g_mmax (n := 96) X kw_4_43 kw_3_153 kw_1_14 kw_3_154 (by omega) (by omega) (Nat.le_of_ble_eq_true rfl) (Nat.le_of_ble_eq_true rfl) (Nat.le_of_ble_eq_true rfl) (Nat.le_of_ble_eq_true rfl) dX7_readWord_93 rfl (fun x1402 hx1402 => ?_)
                    have rx1402 : 0 ≤ x1402 ∧ x1402 ≤ 10 := by omega
                    refine g_istore_n (n := 97) (L' := [(1, gJ x1402), (0, gA n0 159), (2, gJ v3), (3, .ref (cA (100 + (v1174).toNat))), (4, gJ v1177)]) X dX7_readWord_96 rfl (by decide) rfl rfl ?_
                    refine g_iinc (n := 100) (w := v3 + 1) (L' := [(2, gJ (v3 + 1)), (1, gJ x1402), (0, gA n0 159), (3, .ref (cA (100 + (v1174).toNat))), (4, gJ v1177)]) X 2 dX7_readWord_97 rfl rfl (by decide) rfl rfl ?_
                    refine g_goto (tgt := 4) X dX7_readWord_100 (by decide) ?_
                    refine G.sub (L' := [(0, gA n0 159), (1, gJ x1402), (2, gJ (v3 + 1))]) [2, 1, 0] rfl ?_
                    exact ih1169 x1402 (v3 + 1) (by omega) (by omega) (by omega) (by omega)
                  · refine g_aload_n (n := 78) X 0 dX7_readWord_77 rfl rfl rfl ?_
                    refine g_dup (n := 79) X dX7_readWord_78 rfl rfl ?_
                    refine gg_7_2 (n := 82) (z := v1) X (by decide) (gsz hsz (by decide)) lay_159 kw_2_213 dX7_readWord_79 rfl hv1 ?_
                    refine g_iload (n := 84) X 4 dX7_readWord_82 rfl rfl ?_
                    refine g_iadd (n := 85) (z := v1 + v1177) X dX7_readWord_84 rfl rfl ?_
                    refine gp_7_2 (n := 88) X (by decide) (gsz hsz (by decide)) lay_159 kw_2_213 dX7_readWord_85 rfl ?_
                    refine G.nm (fun M1403 e1404 => ?_)
                    have IM1403 : gI sz M1403 := gI.set I rc_159_2.1 (by omega) e1404
                    have CM1403 : gC sz M1403 := gC.set C rc_159_2.2.1 e1404
                    refine g_iload_n (n := 89) X 2 dX7_readWord_88 rfl rfl rfl ?_
                    exact hq _ _ _ _ dX7_readWord_89 ⟨by omega, IM1403, CM1403, (gFr.s gFr.rf e1404 rc_159_2.2.2 rfl)⟩
                · refine g_iinc (n := 65) (w := v1177 + 1) (L' := [(4, gJ (v1177 + 1)), (0, gA n0 159), (1, gJ v2), (2, gJ v3), (3, .ref (cA (100 + (v1174).toNat)))]) X 4 dX7_readWord_62 rfl rfl (by decide) rfl rfl ?_
                  refine g_goto (tgt := 18) X dX7_readWord_65 (by decide) ?_
                  refine G.sub (L' := [(0, gA n0 159), (1, gJ v2), (2, gJ v3), (3, .ref (cA (100 + (v1174).toNat))), (4, gJ (v1177 + 1))]) [1, 2, 3, 4, 0] rfl ?_
                  exact ih1366 (v1177 + 1) (by omega) (by omega) (by omega)
        refine G.sub (L' := [(0, gA n0 159), (1, gJ v2), (2, gJ v3), (3, .ref (cA (100 + (v1174).toNat))), (4, gJ 0)]) [2, 3, 4, 1, 0] rfl ?_
        exact j1179 _ 0 (by omega) (by omega) (Nat.lt_succ_self _)
  refine G.sub (L' := [(0, gA n0 159), (1, gJ 0), (2, gJ 0)]) [2, 1, 0] rfl ?_
  exact j5 _ 0 0 (by omega) (by omega) (by omega) (Nat.lt_succ_self _)
theorem dX7_readPart_0 : decode cX7_readPart 0 = .ok (.iload_n 1, 1) := dc_27 (by decide +kernel)
theorem dX7_readPart_1 : decode cX7_readPart 1 = .ok (.tableswitch 56 5 9 #[35, 35, 42, 56, 49], 35) := by decide +kernel
theorem dX7_readPart_36 : decode cX7_readPart 36 = .ok (.aload_n 0, 1) := dc_42 (by decide +kernel)
theorem dX7_readPart_37 : decode cX7_readPart 37 = .ok (.ldc 89, 2) := dc_18 89 (by decide +kernel)
theorem dX7_readPart_39 : decode cX7_readPart 39 = .ok (.invokevirtual 91, 3) := dc_182 0 91 (by decide +kernel)
theorem kw_4_53 : (Jvm.Cond.methodLink "ParishUnion$Reader" (91 : Nat) ({ cls := "ParishUnion$Reader", name := "readSign", desc := "(Ljava/lang/String;)I" } : Jvm.MethodName)) ∈ gT := gT_of (tb_4 _ (List.mem_of_getElem? (i := 53) rfl)) rfl
theorem kw_4_56 : (Jvm.Cond.code ({ cls := "ParishUnion$Reader", name := "readSign", desc := "(Ljava/lang/String;)I" } : Jvm.MethodName) prog_9_method_12_code (3 : Nat) (Option.some Jvm.ClassFile.FieldType.int)) ∈ gT := gT_of (tb_4 _ (List.mem_of_getElem? (i := 56) rfl)) rfl
theorem okX7_readSign : gQok yX7_readSign cX7_readSign 3 (Option.some Jvm.ClassFile.FieldType.int) 1 := ⟨kw_4_56, kw_1_12, by decide +kernel, by decide +kernel, by decide +kernel⟩
theorem kw_4_55 : (Jvm.Cond.instanceMethod ({ cls := "ParishUnion$Reader", name := "readSign", desc := "(Ljava/lang/String;)I" } : Jvm.MethodName)) ∈ gT := gT_of (tb_4 _ (List.mem_of_getElem? (i := 55) rfl)) rfl
theorem kw_0_11 : (Jvm.Cond.selects "ParishUnion$Reader" ({ cls := "ParishUnion$Reader", name := "readSign", desc := "(Ljava/lang/String;)I" } : Jvm.MethodName) ({ cls := "ParishUnion$Reader", name := "readSign", desc := "(Ljava/lang/String;)I" } : Jvm.MethodName)) ∈ gT := gT_of (tb_0 _ (List.mem_of_getElem? (i := 11) rfl)) rfl
theorem dX7_readPart_42 : decode cX7_readPart 42 = .ok (.ireturn, 1) := dc_172 (by decide +kernel)
theorem dX7_readPart_43 : decode cX7_readPart 43 = .ok (.aload_n 0, 1) := dc_42 (by decide +kernel)
theorem dX7_readPart_44 : decode cX7_readPart 44 = .ok (.ldc 95, 2) := dc_18 95 (by decide +kernel)
theorem dX7_readPart_46 : decode cX7_readPart 46 = .ok (.invokevirtual 91, 3) := dc_182 0 91 (by decide +kernel)
theorem dX7_readPart_49 : decode cX7_readPart 49 = .ok (.ireturn, 1) := dc_172 (by decide +kernel)
theorem dX7_readPart_57 : decode cX7_readPart 57 = .ok (.aload_n 0, 1) := dc_42 (by decide +kernel)
theorem dX7_readPart_58 : decode cX7_readPart 58 = .ok (.iconst 4, 1) := dc_7 (by decide +kernel)
theorem dX7_readPart_59 : decode cX7_readPart 59 = .ok (.invokevirtual 99, 3) := dc_182 0 99 (by decide +kernel)
theorem kw_4_59 : (Jvm.Cond.methodLink "ParishUnion$Reader" (99 : Nat) ({ cls := "ParishUnion$Reader", name := "readNumber", desc := "(I)I" } : Jvm.MethodName)) ∈ gT := gT_of (tb_4 _ (List.mem_of_getElem? (i := 59) rfl)) rfl
theorem kw_4_62 : (Jvm.Cond.code ({ cls := "ParishUnion$Reader", name := "readNumber", desc := "(I)I" } : Jvm.MethodName) prog_9_method_13_code (4 : Nat) (Option.some Jvm.ClassFile.FieldType.int)) ∈ gT := gT_of (tb_4 _ (List.mem_of_getElem? (i := 62) rfl)) rfl
theorem okX7_readNumber : gQok yX7_readNumber cX7_readNumber 4 (Option.some Jvm.ClassFile.FieldType.int) 1 := ⟨kw_4_62, kw_1_12, by decide +kernel, by decide +kernel, by decide +kernel⟩
theorem kw_4_61 : (Jvm.Cond.instanceMethod ({ cls := "ParishUnion$Reader", name := "readNumber", desc := "(I)I" } : Jvm.MethodName)) ∈ gT := gT_of (tb_4 _ (List.mem_of_getElem? (i := 61) rfl)) rfl
theorem kw_0_12 : (Jvm.Cond.selects "ParishUnion$Reader" ({ cls := "ParishUnion$Reader", name := "readNumber", desc := "(I)I" } : Jvm.MethodName) ({ cls := "ParishUnion$Reader", name := "readNumber", desc := "(I)I" } : Jvm.MethodName)) ∈ gT := gT_of (tb_0 _ (List.mem_of_getElem? (i := 12) rfl)) rfl
theorem dX7_readPart_62 : decode cX7_readPart 62 = .ok (.ireturn, 1) := dc_172 (by decide +kernel)
theorem dX7_readPart_50 : decode cX7_readPart 50 = .ok (.aload_n 0, 1) := dc_42 (by decide +kernel)
theorem dX7_readPart_51 : decode cX7_readPart 51 = .ok (.ldc 97, 2) := dc_18 97 (by decide +kernel)
theorem dX7_readPart_53 : decode cX7_readPart 53 = .ok (.invokevirtual 91, 3) := dc_182 0 91 (by decide +kernel)
theorem dX7_readPart_56 : decode cX7_readPart 56 = .ok (.ireturn, 1) := dc_172 (by decide +kernel)
abbrev R_X7_readPart : Room := { frames := 5, cells := 0, slots := 0, locals := 107 }
set_option maxRecDepth 100000 in
set_option maxHeartbeats 4000000 in
theorem s_X7_readPart {l : Launch} {n0 : Nat} {D : va_G} {cA : Nat → ClassId} {M : gM} (a : Int) (r_a : 0 ≤ a ∧ a ≤ 9) (o : Int) (r_o : 87 ≤ o ∧ o ≤ 147 ∧ (o - 87) % 6 = 0) {sz : Nat} (hsz : 206 ≤ sz) (I : gI sz M) (C : gC sz M) (ht : M 159 0 = o + 1 + 1)  : Met l yX7_readPart (gWsOf yX7_readPart cX7_readPart 2 (Option.some Jvm.ClassFile.FieldType.int)) R_X7_readPart (gPc n0 D cA [gA n0 159, gJ a] M sz) (gQi n0 D cA sz (fun z M1 => (-2147483648 ≤ z ∧ z ≤ 2147483647) ∧ gI sz M1 ∧ gC sz M1 ∧ gFr 536870912 M M1 ∧ (a = 9 → -1 ≤ z ∧ z ≤ 3))) 0 0 (fun q => n0 ≤ q) := by
  refine gMetI [gA n0 159, gJ a] (by decide) (Nat.le_of_ble_eq_true rfl) ⟨rfl, rfl⟩ ?_
  intro p e s m args below meth cd Q X hq
  have X : gCx p s m args meth cd n0 D cA "ParishUnion$Reader" cX7_readPart 2 := X
  show G p l e R_X7_readPart s m args below meth cd n0 D cA 2 Q 0 0 M sz 0 [(0, gA n0 159), (1, gJ a)] []
  refine g_iload_n (n := 1) X 1 dX7_readPart_0 rfl rfl rfl ?_
  by_cases c1 : a = 5
  · refine g_tableIn (tgt := 36) X 0 dX7_readPart_1 (by omega) (by omega) (by omega) (by omega) rfl (by decide) ?_
    refine g_aload_n (n := 37) X 0 dX7_readPart_36 rfl rfl rfl ?_
    refine g_ldcS (n := 39) X 10 rfl dX7_readPart_37 rfl ?_
    refine g_callVi (n := 42) (As := [.ref (cA (100 + 10))]) (rest := []) (cs1 := 0) (ss1 := 0) X (s_X7_readSign 10 (by omega) o r_o hsz I C ht) okX7_readSign kw_4_53 ⟨kw_4_55, kw_0_11⟩ ⟨rfl, rfl⟩ ⟨Nat.le_of_ble_eq_true rfl, Nat.le_of_ble_eq_true rfl⟩ rfl (by decide) (gsz hsz (by decide)) lay_159 rfl rfl (Nat.le_of_ble_eq_true rfl) ⟨Nat.le_of_ble_eq_true rfl, Nat.le_of_ble_eq_true rfl⟩ rfl rfl dX7_readPart_39 rfl (fun v2 M3 P4 => ?_)
    obtain ⟨rv2, IM3, CM3, FM3, xM3⟩ := P4
    have gv2 : gSL 10 = 2 := by decide +kernel
    exact hq _ _ _ _ dX7_readPart_42 ⟨by omega, IM3, CM3, (gFr.c gFr.rf FM3 rfl), by omega⟩
  by_cases c5 : a = 6
  · refine g_tableIn (tgt := 36) X 1 dX7_readPart_1 (by omega) (by omega) (by omega) (by omega) rfl (by decide) ?_
    refine g_aload_n (n := 37) X 0 dX7_readPart_36 rfl rfl rfl ?_
    refine g_ldcS (n := 39) X 10 rfl dX7_readPart_37 rfl ?_
    refine g_callVi (n := 42) (As := [.ref (cA (100 + 10))]) (rest := []) (cs1 := 0) (ss1 := 0) X (s_X7_readSign 10 (by omega) o r_o hsz I C ht) okX7_readSign kw_4_53 ⟨kw_4_55, kw_0_11⟩ ⟨rfl, rfl⟩ ⟨Nat.le_of_ble_eq_true rfl, Nat.le_of_ble_eq_true rfl⟩ rfl (by decide) (gsz hsz (by decide)) lay_159 rfl rfl (Nat.le_of_ble_eq_true rfl) ⟨Nat.le_of_ble_eq_true rfl, Nat.le_of_ble_eq_true rfl⟩ rfl rfl dX7_readPart_39 rfl (fun v6 M7 P8 => ?_)
    obtain ⟨rv6, IM7, CM7, FM7, xM7⟩ := P8
    have gv6 : gSL 10 = 2 := by decide +kernel
    exact hq _ _ _ _ dX7_readPart_42 ⟨by omega, IM7, CM7, (gFr.c gFr.rf FM7 rfl), by omega⟩
  by_cases c9 : a = 7
  · refine g_tableIn (tgt := 43) X 2 dX7_readPart_1 (by omega) (by omega) (by omega) (by omega) rfl (by decide) ?_
    refine g_aload_n (n := 44) X 0 dX7_readPart_43 rfl rfl rfl ?_
    refine g_ldcS (n := 46) X 11 rfl dX7_readPart_44 rfl ?_
    refine g_callVi (n := 49) (As := [.ref (cA (100 + 11))]) (rest := []) (cs1 := 0) (ss1 := 0) X (s_X7_readSign 11 (by omega) o r_o hsz I C ht) okX7_readSign kw_4_53 ⟨kw_4_55, kw_0_11⟩ ⟨rfl, rfl⟩ ⟨Nat.le_of_ble_eq_true rfl, Nat.le_of_ble_eq_true rfl⟩ rfl (by decide) (gsz hsz (by decide)) lay_159 rfl rfl (Nat.le_of_ble_eq_true rfl) ⟨Nat.le_of_ble_eq_true rfl, Nat.le_of_ble_eq_true rfl⟩ rfl rfl dX7_readPart_46 rfl (fun v10 M11 P12 => ?_)
    obtain ⟨rv10, IM11, CM11, FM11, xM11⟩ := P12
    have gv10 : gSL 11 = 3 := by decide +kernel
    exact hq _ _ _ _ dX7_readPart_49 ⟨by omega, IM11, CM11, (gFr.c gFr.rf FM11 rfl), by omega⟩
  by_cases c13 : a = 8
  · refine g_tableIn (tgt := 57) X 3 dX7_readPart_1 (by omega) (by omega) (by omega) (by omega) rfl (by decide) ?_
    refine g_aload_n (n := 58) X 0 dX7_readPart_57 rfl rfl rfl ?_
    refine g_iconst (n := 59) X dX7_readPart_58 rfl ?_
    refine g_callVi (n := 62) (As := [gJ 4]) (rest := []) (cs1 := 0) (ss1 := 0) X (s_X7_readNumber 4 (by omega) o r_o hsz I C ht) okX7_readNumber kw_4_59 ⟨kw_4_61, kw_0_12⟩ ⟨rfl, rfl⟩ ⟨Nat.le_of_ble_eq_true rfl, Nat.le_of_ble_eq_true rfl⟩ rfl (by decide) (gsz hsz (by decide)) lay_159 rfl rfl (Nat.le_of_ble_eq_true rfl) ⟨Nat.le_of_ble_eq_true rfl, Nat.le_of_ble_eq_true rfl⟩ rfl rfl dX7_readPart_59 rfl (fun v14 M15 P16 => ?_)
    obtain ⟨rv14, IM15, CM15, FM15⟩ := P16
    exact hq _ _ _ _ dX7_readPart_62 ⟨by omega, IM15, CM15, (gFr.c gFr.rf FM15 rfl), by omega⟩
  by_cases c17 : a = 9
  · refine g_tableIn (tgt := 50) X 4 dX7_readPart_1 (by omega) (by omega) (by omega) (by omega) rfl (by decide) ?_
    refine g_aload_n (n := 51) X 0 dX7_readPart_50 rfl rfl rfl ?_
    refine g_ldcS (n := 53) X 12 rfl dX7_readPart_51 rfl ?_
    refine g_callVi (n := 56) (As := [.ref (cA (100 + 12))]) (rest := []) (cs1 := 0) (ss1 := 0) X (s_X7_readSign 12 (by omega) o r_o hsz I C ht) okX7_readSign kw_4_53 ⟨kw_4_55, kw_0_11⟩ ⟨rfl, rfl⟩ ⟨Nat.le_of_ble_eq_true rfl, Nat.le_of_ble_eq_true rfl⟩ rfl (by decide) (gsz hsz (by decide)) lay_159 rfl rfl (Nat.le_of_ble_eq_true rfl) ⟨Nat.le_of_ble_eq_true rfl, Nat.le_of_ble_eq_true rfl⟩ rfl rfl dX7_readPart_53 rfl (fun v18 M19 P20 => ?_)
    obtain ⟨rv18, IM19, CM19, FM19, xM19⟩ := P20
    have gv18 : gSL 12 = 4 := by decide +kernel
    exact hq _ _ _ _ dX7_readPart_56 ⟨by omega, IM19, CM19, (gFr.c gFr.rf FM19 rfl), by omega⟩
  refine g_tableOut (tgt := 57) X dX7_readPart_1 (by omega) (by omega) (by decide) ?_
  refine g_aload_n (n := 58) X 0 dX7_readPart_57 rfl rfl rfl ?_
  refine g_iconst (n := 59) X dX7_readPart_58 rfl ?_
  refine g_callVi (n := 62) (As := [gJ 4]) (rest := []) (cs1 := 0) (ss1 := 0) X (s_X7_readNumber 4 (by omega) o r_o hsz I C ht) okX7_readNumber kw_4_59 ⟨kw_4_61, kw_0_12⟩ ⟨rfl, rfl⟩ ⟨Nat.le_of_ble_eq_true rfl, Nat.le_of_ble_eq_true rfl⟩ rfl (by decide) (gsz hsz (by decide)) lay_159 rfl rfl (Nat.le_of_ble_eq_true rfl) ⟨Nat.le_of_ble_eq_true rfl, Nat.le_of_ble_eq_true rfl⟩ rfl rfl dX7_readPart_59 rfl (fun v21 M22 P23 => ?_)
  obtain ⟨rv21, IM22, CM22, FM22⟩ := P23
  exact hq _ _ _ _ dX7_readPart_62 ⟨by omega, IM22, CM22, (gFr.c gFr.rf FM22 rfl), by omega⟩
theorem rc_159_3 : gRg 159 3 = (0, 6) ∧ gCr 159 3 = false ∧ gG 159 3 = 26 := by decide +kernel
theorem dX7_closeOne_0 : decode cX7_closeOne 0 = .ok (.aload_n 0, 1) := dc_42 (by decide +kernel)
theorem dX7_closeOne_1 : decode cX7_closeOne 1 = .ok (.dup, 1) := dc_89 (by decide +kernel)
theorem dX7_closeOne_2 : decode cX7_closeOne 2 = .ok (.getfield 105, 3) := dc_180 0 105 (by decide +kernel)
theorem kw_2_215 : (Jvm.Cond.fieldLink "ParishUnion$Reader" (105 : Nat) "ParishUnion$Reader" "nots" "I") ∈ gT := gT_of (tb_2 _ (List.mem_of_getElem? (i := 215) rfl)) rfl
theorem rc_159_4 : gRg 159 4 = (-2147483648, 2147483647) ∧ gCr 159 4 = false ∧ gG 159 4 = 26 := by decide +kernel
theorem dX7_closeOne_5 : decode cX7_closeOne 5 = .ok (.iconst 1, 1) := dc_4 (by decide +kernel)
theorem dX7_closeOne_6 : decode cX7_closeOne 6 = .ok (.ishr, 1) := dc_122 (by decide +kernel)
theorem dX7_closeOne_7 : decode cX7_closeOne 7 = .ok (.putfield 105, 3) := dc_181 0 105 (by decide +kernel)
theorem dX7_closeOne_10 : decode cX7_closeOne 10 = .ok (.aload_n 0, 1) := dc_42 (by decide +kernel)
theorem dX7_closeOne_11 : decode cX7_closeOne 11 = .ok (.dup, 1) := dc_89 (by decide +kernel)
theorem dX7_closeOne_12 : decode cX7_closeOne 12 = .ok (.getfield 102, 3) := dc_180 0 102 (by decide +kernel)
theorem kw_2_214 : (Jvm.Cond.fieldLink "ParishUnion$Reader" (102 : Nat) "ParishUnion$Reader" "open" "I") ∈ gT := gT_of (tb_2 _ (List.mem_of_getElem? (i := 214) rfl)) rfl
theorem dX7_closeOne_15 : decode cX7_closeOne 15 = .ok (.iconst 1, 1) := dc_4 (by decide +kernel)
theorem dX7_closeOne_16 : decode cX7_closeOne 16 = .ok (.isub, 1) := dc_100 (by decide +kernel)
theorem dX7_closeOne_17 : decode cX7_closeOne 17 = .ok (.putfield 102, 3) := dc_181 0 102 (by decide +kernel)
theorem dX7_closeOne_20 : decode cX7_closeOne 20 = .ok (.return_, 1) := dc_177 (by decide +kernel)
abbrev R_X7_closeOne : Room := { frames := 0, cells := 0, slots := 0, locals := 0 }
set_option maxRecDepth 100000 in
set_option maxHeartbeats 4000000 in
theorem s_X7_closeOne {l : Launch} {n0 : Nat} {D : va_G} {cA : Nat → ClassId} {M : gM} (o : Int) (r_o : 87 ≤ o ∧ o ≤ 147 ∧ (o - 87) % 6 = 0) {sz : Nat} (hsz : 206 ≤ sz) (I : gI sz M) (C : gC sz M) (ht : M 159 0 = o + 1 + 1) (q_159_3 : 1 ≤ M 159 3 ∧ M 159 3 ≤ 6)  : Met l yX7_closeOne (gWsOf yX7_closeOne cX7_closeOne 1 (Option.none : Option Jvm.ClassFile.FieldType)) R_X7_closeOne (gPc n0 D cA [gA n0 159] M sz) (gQv n0 D cA sz (fun M1 => gI sz M1 ∧ gC sz M1 ∧ gFr 67108864 M M1)) 0 0 (fun q => n0 ≤ q) := by
  refine gMetV [gA n0 159] (by decide) (Nat.le_of_ble_eq_true rfl) ⟨rfl, rfl⟩ ?_
  intro p e s m args below meth cd Q X hq
  have X : gCx p s m args meth cd n0 D cA "ParishUnion$Reader" cX7_closeOne 1 := X
  show G p l e R_X7_closeOne s m args below meth cd n0 D cA 1 Q 0 0 M sz 0 [(0, gA n0 159)] []
  obtain ⟨v1, hv1, rv1⟩ := gRd I (by decide) (gsz hsz (by decide)) rc_159_3.1
  refine g_aload_n (n := 1) X 0 dX7_closeOne_0 rfl rfl rfl ?_
  refine g_dup (n := 2) X dX7_closeOne_1 rfl rfl ?_
  obtain ⟨v2, hv2, rv2⟩ := gRd I (by decide) (gsz hsz (by decide)) rc_159_4.1
  refine gg_7_4 (n := 5) (z := v2) X (by decide) (gsz hsz (by decide)) lay_159 kw_2_215 dX7_closeOne_2 rfl hv2 ?_
  refine g_iconst (n := 6) X dX7_closeOne_5 rfl ?_
  refine g_ishrA (n := 7) X dX7_closeOne_6 rfl (fun v3 rv3 xv3 => ?_)
  clear xv3
  refine gp_7_4 (n := 10) X (by decide) (gsz hsz (by decide)) lay_159 kw_2_215 dX7_closeOne_7 rfl ?_
  refine G.nm (fun M4 e5 => ?_)
  have IM4 : gI sz M4 := gI.set I rc_159_4.1 (by omega) e5
  have CM4 : gC sz M4 := gC.set C rc_159_4.2.1 e5
  refine g_aload_n (n := 11) X 0 dX7_closeOne_10 rfl rfl rfl ?_
  refine g_dup (n := 12) X dX7_closeOne_11 rfl rfl ?_
  refine gg_7_3 (n := 15) (z := v1) X (by decide) (gsz hsz (by decide)) lay_159 kw_2_214 dX7_closeOne_12 rfl ((congrFun (congrFun e5 _) _).trans ((gset_ne (by omega)).trans hv1)) ?_
  refine g_iconst (n := 16) X dX7_closeOne_15 rfl ?_
  refine g_isub (n := 17) (z := v1 - 1) X dX7_closeOne_16 (by omega) rfl ?_
  refine gp_7_3 (n := 20) X (by decide) (gsz hsz (by decide)) lay_159 kw_2_214 dX7_closeOne_17 rfl ?_
  refine G.nm (fun M6 e7 => ?_)
  have IM6 : gI sz M6 := gI.set IM4 rc_159_3.1 (by omega) e7
  have CM6 : gC sz M6 := gC.set CM4 rc_159_3.2.1 e7
  exact hq _ _ _ dX7_closeOne_20 ⟨IM6, CM6, (gFr.s (gFr.s gFr.rf e5 rc_159_4.2.2 rfl) e7 rc_159_3.2.2 rfl)⟩
theorem dX7_endNots_0 : decode cX7_endNots 0 = .ok (.iconst 0, 1) := dc_3 (by decide +kernel)
theorem dX7_endNots_1 : decode cX7_endNots 1 = .ok (.istore_n 1, 1) := dc_60 (by decide +kernel)
theorem dX7_endNots_2 : decode cX7_endNots 2 = .ok (.iload_n 1, 1) := dc_27 (by decide +kernel)
theorem dX7_endNots_3 : decode cX7_endNots 3 = .ok (.bipush 6, 2) := dc_16 6 6 (by decide +kernel)
theorem dX7_endNots_5 : decode cX7_endNots 5 = .ok (.if_icmp .ge 30, 3) := dc_162 0 30 30 (by decide +kernel)
theorem dX7_endNots_8 : decode cX7_endNots 8 = .ok (.aload_n 0, 1) := dc_42 (by decide +kernel)
theorem dX7_endNots_9 : decode cX7_endNots 9 = .ok (.getfield 102, 3) := dc_180 0 102 (by decide +kernel)
theorem dX7_endNots_12 : decode cX7_endNots 12 = .ok (.ifCond .le 23, 3) := dc_158 0 23 23 (by decide +kernel)
theorem dX7_endNots_35 : decode cX7_endNots 35 = .ok (.return_, 1) := dc_177 (by decide +kernel)
theorem dX7_endNots_15 : decode cX7_endNots 15 = .ok (.aload_n 0, 1) := dc_42 (by decide +kernel)
theorem dX7_endNots_16 : decode cX7_endNots 16 = .ok (.getfield 105, 3) := dc_180 0 105 (by decide +kernel)
theorem dX7_endNots_19 : decode cX7_endNots 19 = .ok (.iconst 1, 1) := dc_4 (by decide +kernel)
theorem dX7_endNots_20 : decode cX7_endNots 20 = .ok (.iand, 1) := dc_126 (by decide +kernel)
theorem dX7_endNots_21 : decode cX7_endNots 21 = .ok (.iconst 1, 1) := dc_4 (by decide +kernel)
theorem dX7_endNots_22 : decode cX7_endNots 22 = .ok (.if_icmp .ne 13, 3) := dc_160 0 13 13 (by decide +kernel)
theorem dX7_endNots_25 : decode cX7_endNots 25 = .ok (.aload_n 0, 1) := dc_42 (by decide +kernel)
theorem dX7_endNots_26 : decode cX7_endNots 26 = .ok (.invokevirtual 114, 3) := dc_182 0 114 (by decide +kernel)
theorem kw_4_83 : (Jvm.Cond.methodLink "ParishUnion$Reader" (114 : Nat) ({ cls := "ParishUnion$Reader", name := "closeOne", desc := "()V" } : Jvm.MethodName)) ∈ gT := gT_of (tb_4 _ (List.mem_of_getElem? (i := 83) rfl)) rfl
theorem kw_4_86 : (Jvm.Cond.code ({ cls := "ParishUnion$Reader", name := "closeOne", desc := "()V" } : Jvm.MethodName) prog_9_method_9_code (1 : Nat) (Option.none : Option Jvm.ClassFile.FieldType)) ∈ gT := gT_of (tb_4 _ (List.mem_of_getElem? (i := 86) rfl)) rfl
theorem okX7_closeOne : gQok yX7_closeOne cX7_closeOne 1 (Option.none : Option Jvm.ClassFile.FieldType) 0 := ⟨kw_4_86, kw_1_12, by decide +kernel, by decide +kernel, by decide +kernel⟩
theorem kw_4_85 : (Jvm.Cond.instanceMethod ({ cls := "ParishUnion$Reader", name := "closeOne", desc := "()V" } : Jvm.MethodName)) ∈ gT := gT_of (tb_4 _ (List.mem_of_getElem? (i := 85) rfl)) rfl
theorem kw_0_16 : (Jvm.Cond.selects "ParishUnion$Reader" ({ cls := "ParishUnion$Reader", name := "closeOne", desc := "()V" } : Jvm.MethodName) ({ cls := "ParishUnion$Reader", name := "closeOne", desc := "()V" } : Jvm.MethodName)) ∈ gT := gT_of (tb_0 _ (List.mem_of_getElem? (i := 16) rfl)) rfl
theorem dX7_endNots_29 : decode cX7_endNots 29 = .ok (.iinc 1 1, 3) := dc_132 1 1 1 (by decide +kernel)
theorem dX7_endNots_32 : decode cX7_endNots 32 = .ok (.goto (-30), 3) := dc_167 255 226 (-30) (by decide +kernel)
abbrev R_X7_endNots : Room := { frames := 1, cells := 0, slots := 0, locals := 20 }
set_option maxRecDepth 100000 in
set_option maxHeartbeats 4000000 in
theorem s_X7_endNots {l : Launch} {n0 : Nat} {D : va_G} {cA : Nat → ClassId} {M : gM} (o : Int) (r_o : 87 ≤ o ∧ o ≤ 147 ∧ (o - 87) % 6 = 0) {sz : Nat} (hsz : 206 ≤ sz) (I : gI sz M) (C : gC sz M) (ht : M 159 0 = o + 1 + 1)  : Met l yX7_endNots (gWsOf yX7_endNots cX7_endNots 2 (Option.none : Option Jvm.ClassFile.FieldType)) R_X7_endNots (gPc n0 D cA [gA n0 159] M sz) (gQv n0 D cA sz (fun M1 => gI sz M1 ∧ gC sz M1 ∧ gFr 67108864 M M1)) 0 0 (fun q => n0 ≤ q) := by
  refine gMetV [gA n0 159] (by decide) (Nat.le_of_ble_eq_true rfl) ⟨rfl, rfl⟩ ?_
  intro p e s m args below meth cd Q X hq
  have X : gCx p s m args meth cd n0 D cA "ParishUnion$Reader" cX7_endNots 2 := X
  show G p l e R_X7_endNots s m args below meth cd n0 D cA 2 Q 0 0 M sz 0 [(0, gA n0 159)] []
  refine g_iconst (n := 1) X dX7_endNots_0 rfl ?_
  refine g_istore_n (n := 2) (L' := [(1, gJ 0), (0, gA n0 159)]) X dX7_endNots_1 rfl (by decide) rfl rfl ?_
  have j3 : ∀ (N49 : Nat) (v1 : Int) (M2 : gM) , (0 ≤ v1 ∧ v1 ≤ 6) → gI sz M2 → gC sz M2 → gFr 67108864 M M2 → (6 - v1).toNat < N49 → G p l e R_X7_endNots s m args below meth cd n0 D cA 2 Q 0 0 M2 sz 2 [(0, gA n0 159), (1, gJ v1)] [] := by
    intro N49; induction N49 with
    | zero => intro v1 M2 rv1 IM2 CM2 FM2 hm51; exfalso; omega
    | succ N49 ih50 =>
      intro v1 M2 rv1 IM2 CM2 FM2 hm51
      refine g_iload_n (n := 3) X 1 dX7_endNots_2 rfl rfl rfl ?_
      refine g_bipush (n := 5) X dX7_endNots_3 (by decide +kernel) rfl ?_
      refine g_icmp_ge (n := 8) (tgt := 35) X dX7_endNots_5 (by decide) (by omega) (by omega) rfl (fun c52 => ?_) (fun c52 => ?_)
      · exact hq _ _ _ dX7_endNots_35 ⟨IM2, CM2, (gFr.c gFr.rf FM2 rfl)⟩
      · refine g_aload_n (n := 9) X 0 dX7_endNots_8 rfl rfl rfl ?_
        obtain ⟨v53, hv53, rv53⟩ := gRd IM2 (by decide) (gsz hsz (by decide)) rc_159_3.1
        refine gg_7_3 (n := 12) (z := v53) X (by decide) (gsz hsz (by decide)) lay_159 kw_2_214 dX7_endNots_9 rfl hv53 ?_
        refine g_if_le (n := 15) (tgt := 35) X dX7_endNots_12 (by decide) (by omega) rfl (fun c54 => ?_) (fun c54 => ?_)
        · exact hq _ _ _ dX7_endNots_35 ⟨IM2, CM2, (gFr.c gFr.rf FM2 rfl)⟩
        · refine g_aload_n (n := 16) X 0 dX7_endNots_15 rfl rfl rfl ?_
          obtain ⟨v55, hv55, rv55⟩ := gRd IM2 (by decide) (gsz hsz (by decide)) rc_159_4.1
          refine gg_7_4 (n := 19) (z := v55) X (by decide) (gsz hsz (by decide)) lay_159 kw_2_215 dX7_endNots_16 rfl hv55 ?_
          refine g_iconst (n := 20) X dX7_endNots_19 rfl ?_
          refine g_iandC (n := 21) X dX7_endNots_20 (by decide) rfl (fun v56 rv56 xv56 => ?_)
          clear xv56
          refine g_iconst (n := 22) X dX7_endNots_21 rfl ?_
          refine g_icmp_ne (n := 25) (tgt := 35) X dX7_endNots_22 (by decide) (by omega) (by omega) rfl (fun c57 => ?_) (fun c57 => ?_)
          · exact hq _ _ _ dX7_endNots_35 ⟨IM2, CM2, (gFr.c gFr.rf FM2 rfl)⟩
          · refine g_aload_n (n := 26) X 0 dX7_endNots_25 rfl rfl rfl ?_
            refine g_callVv (n := 29) (As := []) (rest := []) (cs1 := 0) (ss1 := 0) X (s_X7_closeOne o r_o hsz IM2 CM2 ((gFr.at FM2 rc_159_0.2.2 rfl).trans ht) (by have := hv53; omega)) okX7_closeOne kw_4_83 ⟨kw_4_85, kw_0_16⟩ ⟨rfl, rfl⟩ ⟨Nat.le_of_ble_eq_true rfl, Nat.le_of_ble_eq_true rfl⟩ rfl (by decide) (gsz hsz (by decide)) lay_159 rfl rfl (Nat.le_of_ble_eq_true rfl) ⟨Nat.le_of_ble_eq_true rfl, Nat.le_of_ble_eq_true rfl⟩ rfl rfl dX7_endNots_26 rfl (fun M59 P60 => ?_)
            obtain ⟨IM59, CM59, FM59⟩ := P60
            refine g_iinc (n := 32) (w := v1 + 1) (L' := [(1, gJ (v1 + 1)), (0, gA n0 159)]) X 1 dX7_endNots_29 rfl rfl (by decide) rfl rfl ?_
            refine g_goto (tgt := 2) X dX7_endNots_32 (by decide) ?_
            refine G.sub (L' := [(0, gA n0 159), (1, gJ (v1 + 1))]) [1, 0] rfl ?_
            exact ih50 (v1 + 1) M59 (by omega) IM59 CM59 (gFr.c (gFr.c gFr.rf FM2 rfl) FM59 rfl) (by omega)
  refine G.sub (L' := [(0, gA n0 159), (1, gJ 0)]) [1, 0] rfl ?_
  exact j3 _ 0 M (by omega) I C gFr.rf (Nat.lt_succ_self _)
theorem dX7_readFact_0 : decode cX7_readFact 0 = .ok (.aload_n 0, 1) := dc_42 (by decide +kernel)
theorem dX7_readFact_1 : decode cX7_readFact 1 = .ok (.bipush 111, 2) := dc_16 111 111 (by decide +kernel)
theorem dX7_readFact_3 : decode cX7_readFact 3 = .ok (.invokevirtual 30, 3) := dc_182 0 30 (by decide +kernel)
theorem dX7_readFact_6 : decode cX7_readFact 6 = .ok (.ifCond .eq 5, 3) := dc_153 0 5 5 (by decide +kernel)
theorem dX7_readFact_11 : decode cX7_readFact 11 = .ok (.aload_n 0, 1) := dc_42 (by decide +kernel)
theorem dX7_readFact_12 : decode cX7_readFact 12 = .ok (.ldc 117, 2) := dc_18 117 (by decide +kernel)
theorem dX7_readFact_14 : decode cX7_readFact 14 = .ok (.invokevirtual 91, 3) := dc_182 0 91 (by decide +kernel)
theorem dX7_readFact_17 : decode cX7_readFact 17 = .ok (.iconst (-1), 1) := dc_2 (by decide +kernel)
theorem dX7_readFact_18 : decode cX7_readFact 18 = .ok (.if_icmp .eq 28, 3) := dc_159 0 28 28 (by decide +kernel)
theorem dX7_readFact_46 : decode cX7_readFact 46 = .ok (.aload_n 0, 1) := dc_42 (by decide +kernel)
theorem dX7_readFact_47 : decode cX7_readFact 47 = .ok (.ldc 121, 2) := dc_18 121 (by decide +kernel)
theorem dX7_readFact_49 : decode cX7_readFact 49 = .ok (.invokevirtual 91, 3) := dc_182 0 91 (by decide +kernel)
theorem dX7_readFact_52 : decode cX7_readFact 52 = .ok (.iconst (-1), 1) := dc_2 (by decide +kernel)
theorem dX7_readFact_53 : decode cX7_readFact 53 = .ok (.if_icmp .eq 25, 3) := dc_159 0 25 25 (by decide +kernel)
theorem dX7_readFact_78 : decode cX7_readFact 78 = .ok (.iconst 0, 1) := dc_3 (by decide +kernel)
theorem dX7_readFact_79 : decode cX7_readFact 79 = .ok (.ireturn, 1) := dc_172 (by decide +kernel)
theorem dX7_readFact_56 : decode cX7_readFact 56 = .ok (.aload_n 0, 1) := dc_42 (by decide +kernel)
theorem dX7_readFact_57 : decode cX7_readFact 57 = .ok (.bipush 61, 2) := dc_16 61 61 (by decide +kernel)
theorem dX7_readFact_59 : decode cX7_readFact 59 = .ok (.invokevirtual 30, 3) := dc_182 0 30 (by decide +kernel)
theorem dX7_readFact_62 : decode cX7_readFact 62 = .ok (.ifCond .eq 16, 3) := dc_153 0 16 16 (by decide +kernel)
theorem dX7_readFact_65 : decode cX7_readFact 65 = .ok (.aload_n 0, 1) := dc_42 (by decide +kernel)
theorem dX7_readFact_66 : decode cX7_readFact 66 = .ok (.iconst 1, 1) := dc_4 (by decide +kernel)
theorem dX7_readFact_67 : decode cX7_readFact 67 = .ok (.invokevirtual 99, 3) := dc_182 0 99 (by decide +kernel)
theorem dX7_readFact_70 : decode cX7_readFact 70 = .ok (.iconst (-1), 1) := dc_2 (by decide +kernel)
theorem dX7_readFact_71 : decode cX7_readFact 71 = .ok (.if_icmp .eq 7, 3) := dc_159 0 7 7 (by decide +kernel)
theorem dX7_readFact_74 : decode cX7_readFact 74 = .ok (.iconst 1, 1) := dc_4 (by decide +kernel)
theorem dX7_readFact_75 : decode cX7_readFact 75 = .ok (.goto 4, 3) := dc_167 0 4 4 (by decide +kernel)
theorem dX7_readFact_21 : decode cX7_readFact 21 = .ok (.aload_n 0, 1) := dc_42 (by decide +kernel)
theorem dX7_readFact_22 : decode cX7_readFact 22 = .ok (.ldc 119, 2) := dc_18 119 (by decide +kernel)
theorem dX7_readFact_24 : decode cX7_readFact 24 = .ok (.invokevirtual 91, 3) := dc_182 0 91 (by decide +kernel)
theorem dX7_readFact_27 : decode cX7_readFact 27 = .ok (.iconst (-1), 1) := dc_2 (by decide +kernel)
theorem dX7_readFact_28 : decode cX7_readFact 28 = .ok (.if_icmp .eq 16, 3) := dc_159 0 16 16 (by decide +kernel)
theorem dX7_readFact_44 : decode cX7_readFact 44 = .ok (.iconst 0, 1) := dc_3 (by decide +kernel)
theorem dX7_readFact_45 : decode cX7_readFact 45 = .ok (.ireturn, 1) := dc_172 (by decide +kernel)
theorem dX7_readFact_31 : decode cX7_readFact 31 = .ok (.aload_n 0, 1) := dc_42 (by decide +kernel)
theorem dX7_readFact_32 : decode cX7_readFact 32 = .ok (.iconst 2, 1) := dc_5 (by decide +kernel)
theorem dX7_readFact_33 : decode cX7_readFact 33 = .ok (.invokevirtual 99, 3) := dc_182 0 99 (by decide +kernel)
theorem dX7_readFact_36 : decode cX7_readFact 36 = .ok (.iconst (-1), 1) := dc_2 (by decide +kernel)
theorem dX7_readFact_37 : decode cX7_readFact 37 = .ok (.if_icmp .eq 7, 3) := dc_159 0 7 7 (by decide +kernel)
theorem dX7_readFact_40 : decode cX7_readFact 40 = .ok (.iconst 1, 1) := dc_4 (by decide +kernel)
theorem dX7_readFact_41 : decode cX7_readFact 41 = .ok (.goto 4, 3) := dc_167 0 4 4 (by decide +kernel)
theorem dX7_readFact_9 : decode cX7_readFact 9 = .ok (.iconst 1, 1) := dc_4 (by decide +kernel)
theorem dX7_readFact_10 : decode cX7_readFact 10 = .ok (.ireturn, 1) := dc_172 (by decide +kernel)
abbrev R_X7_readFact : Room := { frames := 5, cells := 0, slots := 0, locals := 107 }
set_option maxRecDepth 100000 in
set_option maxHeartbeats 4000000 in
theorem s_X7_readFact {l : Launch} {n0 : Nat} {D : va_G} {cA : Nat → ClassId} {M : gM} (o : Int) (r_o : 87 ≤ o ∧ o ≤ 147 ∧ (o - 87) % 6 = 0) {sz : Nat} (hsz : 206 ≤ sz) (I : gI sz M) (C : gC sz M) (ht : M 159 0 = o + 1 + 1)  : Met l yX7_readFact (gWsOf yX7_readFact cX7_readFact 1 (Option.some Jvm.ClassFile.FieldType.boolean)) R_X7_readFact (gPc n0 D cA [gA n0 159] M sz) (gQi n0 D cA sz (fun z M1 => (0 ≤ z ∧ z ≤ 1) ∧ gI sz M1 ∧ gC sz M1 ∧ gFr 536870912 M M1)) 0 0 (fun q => n0 ≤ q) := by
  refine gMetZ [gA n0 159] (by decide) (Nat.le_of_ble_eq_true rfl) ⟨rfl, rfl⟩ ?_
  intro p e s m args below meth cd Q X hq
  have X : gCx p s m args meth cd n0 D cA "ParishUnion$Reader" cX7_readFact 1 := X
  show G p l e R_X7_readFact s m args below meth cd n0 D cA 1 Q 0 0 M sz 0 [(0, gA n0 159)] []
  refine g_aload_n (n := 1) X 0 dX7_readFact_0 rfl rfl rfl ?_
  refine g_bipush (n := 3) X dX7_readFact_1 (by decide +kernel) rfl ?_
  refine g_callVi (n := 6) (As := [gJ 111]) (rest := []) (cs1 := 0) (ss1 := 0) X (s_X7_skip 111 (by omega) o r_o hsz I C ht) okX7_skip kw_4_44 ⟨kw_4_46, kw_0_9⟩ ⟨rfl, rfl⟩ ⟨Nat.le_of_ble_eq_true rfl, Nat.le_of_ble_eq_true rfl⟩ rfl (by decide) (gsz hsz (by decide)) lay_159 rfl rfl (Nat.le_of_ble_eq_true rfl) ⟨Nat.le_of_ble_eq_true rfl, Nat.le_of_ble_eq_true rfl⟩ rfl rfl dX7_readFact_3 rfl (fun v1 M2 P3 => ?_)
  obtain ⟨rv1, IM2, CM2, FM2⟩ := P3
  refine g_if_eq (n := 9) (tgt := 11) X dX7_readFact_6 (by decide) (by omega) rfl (fun c4 => ?_) (fun c4 => ?_)
  · refine g_aload_n (n := 12) X 0 dX7_readFact_11 rfl rfl rfl ?_
    refine g_ldcS (n := 14) X 13 rfl dX7_readFact_12 rfl ?_
    refine g_callVi (n := 17) (As := [.ref (cA (100 + 13))]) (rest := []) (cs1 := 0) (ss1 := 0) X (s_X7_readSign 13 (by omega) o r_o hsz IM2 CM2 ((gFr.at FM2 rc_159_0.2.2 rfl).trans ht)) okX7_readSign kw_4_53 ⟨kw_4_55, kw_0_11⟩ ⟨rfl, rfl⟩ ⟨Nat.le_of_ble_eq_true rfl, Nat.le_of_ble_eq_true rfl⟩ rfl (by decide) (gsz hsz (by decide)) lay_159 rfl rfl (Nat.le_of_ble_eq_true rfl) ⟨Nat.le_of_ble_eq_true rfl, Nat.le_of_ble_eq_true rfl⟩ rfl rfl dX7_readFact_14 rfl (fun v5 M6 P7 => ?_)
    obtain ⟨rv5, IM6, CM6, FM6, xM6⟩ := P7
    have gv5 : gSL 13 = 4 := by decide +kernel
    refine g_iconst (n := 18) X dX7_readFact_17 rfl ?_
    refine g_icmp_eq (n := 21) (tgt := 46) X dX7_readFact_18 (by decide) (by omega) (by omega) rfl (fun c8 => ?_) (fun c8 => ?_)
    · refine g_aload_n (n := 47) X 0 dX7_readFact_46 rfl rfl rfl ?_
      refine g_ldcS (n := 49) X 15 rfl dX7_readFact_47 rfl ?_
      refine g_callVi (n := 52) (As := [.ref (cA (100 + 15))]) (rest := []) (cs1 := 0) (ss1 := 0) X (s_X7_readSign 15 (by omega) o r_o hsz IM6 CM6 ((gFr.at FM6 rc_159_0.2.2 rfl).trans ((gFr.at FM2 rc_159_0.2.2 rfl).trans ht))) okX7_readSign kw_4_53 ⟨kw_4_55, kw_0_11⟩ ⟨rfl, rfl⟩ ⟨Nat.le_of_ble_eq_true rfl, Nat.le_of_ble_eq_true rfl⟩ rfl (by decide) (gsz hsz (by decide)) lay_159 rfl rfl (Nat.le_of_ble_eq_true rfl) ⟨Nat.le_of_ble_eq_true rfl, Nat.le_of_ble_eq_true rfl⟩ rfl rfl dX7_readFact_49 rfl (fun v9 M10 P11 => ?_)
      obtain ⟨rv9, IM10, CM10, FM10, xM10⟩ := P11
      have gv9 : gSL 15 = 2 := by decide +kernel
      refine g_iconst (n := 53) X dX7_readFact_52 rfl ?_
      refine g_icmp_eq (n := 56) (tgt := 78) X dX7_readFact_53 (by decide) (by omega) (by omega) rfl (fun c12 => ?_) (fun c12 => ?_)
      · refine g_iconst (n := 79) X dX7_readFact_78 rfl ?_
        exact hq _ _ _ _ dX7_readFact_79 (by omega) ⟨by omega, IM10, CM10, (gFr.c (gFr.c (gFr.c gFr.rf FM2 rfl) FM6 rfl) FM10 rfl)⟩
      · refine g_aload_n (n := 57) X 0 dX7_readFact_56 rfl rfl rfl ?_
        refine g_bipush (n := 59) X dX7_readFact_57 (by decide +kernel) rfl ?_
        refine g_callVi (n := 62) (As := [gJ 61]) (rest := []) (cs1 := 0) (ss1 := 0) X (s_X7_skip 61 (by omega) o r_o hsz IM10 CM10 ((gFr.at FM10 rc_159_0.2.2 rfl).trans ((gFr.at FM6 rc_159_0.2.2 rfl).trans ((gFr.at FM2 rc_159_0.2.2 rfl).trans ht)))) okX7_skip kw_4_44 ⟨kw_4_46, kw_0_9⟩ ⟨rfl, rfl⟩ ⟨Nat.le_of_ble_eq_true rfl, Nat.le_of_ble_eq_true rfl⟩ rfl (by decide) (gsz hsz (by decide)) lay_159 rfl rfl (Nat.le_of_ble_eq_true rfl) ⟨Nat.le_of_ble_eq_true rfl, Nat.le_of_ble_eq_true rfl⟩ rfl rfl dX7_readFact_59 rfl (fun v13 M14 P15 => ?_)
        obtain ⟨rv13, IM14, CM14, FM14⟩ := P15
        refine g_if_eq (n := 65) (tgt := 78) X dX7_readFact_62 (by decide) (by omega) rfl (fun c16 => ?_) (fun c16 => ?_)
        · refine g_iconst (n := 79) X dX7_readFact_78 rfl ?_
          exact hq _ _ _ _ dX7_readFact_79 (by omega) ⟨by omega, IM14, CM14, (gFr.c (gFr.c (gFr.c (gFr.c gFr.rf FM2 rfl) FM6 rfl) FM10 rfl) FM14 rfl)⟩
        · refine g_aload_n (n := 66) X 0 dX7_readFact_65 rfl rfl rfl ?_
          refine g_iconst (n := 67) X dX7_readFact_66 rfl ?_
          refine g_callVi (n := 70) (As := [gJ 1]) (rest := []) (cs1 := 0) (ss1 := 0) X (s_X7_readNumber 1 (by omega) o r_o hsz IM14 CM14 ((gFr.at FM14 rc_159_0.2.2 rfl).trans ((gFr.at FM10 rc_159_0.2.2 rfl).trans ((gFr.at FM6 rc_159_0.2.2 rfl).trans ((gFr.at FM2 rc_159_0.2.2 rfl).trans ht))))) okX7_readNumber kw_4_59 ⟨kw_4_61, kw_0_12⟩ ⟨rfl, rfl⟩ ⟨Nat.le_of_ble_eq_true rfl, Nat.le_of_ble_eq_true rfl⟩ rfl (by decide) (gsz hsz (by decide)) lay_159 rfl rfl (Nat.le_of_ble_eq_true rfl) ⟨Nat.le_of_ble_eq_true rfl, Nat.le_of_ble_eq_true rfl⟩ rfl rfl dX7_readFact_67 rfl (fun v17 M18 P19 => ?_)
          obtain ⟨rv17, IM18, CM18, FM18⟩ := P19
          refine g_iconst (n := 71) X dX7_readFact_70 rfl ?_
          refine g_icmp_eq (n := 74) (tgt := 78) X dX7_readFact_71 (by decide) (by omega) (by omega) rfl (fun c20 => ?_) (fun c20 => ?_)
          · refine g_iconst (n := 79) X dX7_readFact_78 rfl ?_
            exact hq _ _ _ _ dX7_readFact_79 (by omega) ⟨by omega, IM18, CM18, (gFr.c (gFr.c (gFr.c (gFr.c (gFr.c gFr.rf FM2 rfl) FM6 rfl) FM10 rfl) FM14 rfl) FM18 rfl)⟩
          · refine g_iconst (n := 75) X dX7_readFact_74 rfl ?_
            refine g_goto (tgt := 79) X dX7_readFact_75 (by decide) ?_
            exact hq _ _ _ _ dX7_readFact_79 (by omega) ⟨by omega, IM18, CM18, (gFr.c (gFr.c (gFr.c (gFr.c (gFr.c gFr.rf FM2 rfl) FM6 rfl) FM10 rfl) FM14 rfl) FM18 rfl)⟩
    · refine g_aload_n (n := 22) X 0 dX7_readFact_21 rfl rfl rfl ?_
      refine g_ldcS (n := 24) X 14 rfl dX7_readFact_22 rfl ?_
      refine g_callVi (n := 27) (As := [.ref (cA (100 + 14))]) (rest := []) (cs1 := 0) (ss1 := 0) X (s_X7_readSign 14 (by omega) o r_o hsz IM6 CM6 ((gFr.at FM6 rc_159_0.2.2 rfl).trans ((gFr.at FM2 rc_159_0.2.2 rfl).trans ht))) okX7_readSign kw_4_53 ⟨kw_4_55, kw_0_11⟩ ⟨rfl, rfl⟩ ⟨Nat.le_of_ble_eq_true rfl, Nat.le_of_ble_eq_true rfl⟩ rfl (by decide) (gsz hsz (by decide)) lay_159 rfl rfl (Nat.le_of_ble_eq_true rfl) ⟨Nat.le_of_ble_eq_true rfl, Nat.le_of_ble_eq_true rfl⟩ rfl rfl dX7_readFact_24 rfl (fun v21 M22 P23 => ?_)
      obtain ⟨rv21, IM22, CM22, FM22, xM22⟩ := P23
      have gv21 : gSL 14 = 2 := by decide +kernel
      refine g_iconst (n := 28) X dX7_readFact_27 rfl ?_
      refine g_icmp_eq (n := 31) (tgt := 44) X dX7_readFact_28 (by decide) (by omega) (by omega) rfl (fun c24 => ?_) (fun c24 => ?_)
      · refine g_iconst (n := 45) X dX7_readFact_44 rfl ?_
        exact hq _ _ _ _ dX7_readFact_45 (by omega) ⟨by omega, IM22, CM22, (gFr.c (gFr.c (gFr.c gFr.rf FM2 rfl) FM6 rfl) FM22 rfl)⟩
      · refine g_aload_n (n := 32) X 0 dX7_readFact_31 rfl rfl rfl ?_
        refine g_iconst (n := 33) X dX7_readFact_32 rfl ?_
        refine g_callVi (n := 36) (As := [gJ 2]) (rest := []) (cs1 := 0) (ss1 := 0) X (s_X7_readNumber 2 (by omega) o r_o hsz IM22 CM22 ((gFr.at FM22 rc_159_0.2.2 rfl).trans ((gFr.at FM6 rc_159_0.2.2 rfl).trans ((gFr.at FM2 rc_159_0.2.2 rfl).trans ht)))) okX7_readNumber kw_4_59 ⟨kw_4_61, kw_0_12⟩ ⟨rfl, rfl⟩ ⟨Nat.le_of_ble_eq_true rfl, Nat.le_of_ble_eq_true rfl⟩ rfl (by decide) (gsz hsz (by decide)) lay_159 rfl rfl (Nat.le_of_ble_eq_true rfl) ⟨Nat.le_of_ble_eq_true rfl, Nat.le_of_ble_eq_true rfl⟩ rfl rfl dX7_readFact_33 rfl (fun v25 M26 P27 => ?_)
        obtain ⟨rv25, IM26, CM26, FM26⟩ := P27
        refine g_iconst (n := 37) X dX7_readFact_36 rfl ?_
        refine g_icmp_eq (n := 40) (tgt := 44) X dX7_readFact_37 (by decide) (by omega) (by omega) rfl (fun c28 => ?_) (fun c28 => ?_)
        · refine g_iconst (n := 45) X dX7_readFact_44 rfl ?_
          exact hq _ _ _ _ dX7_readFact_45 (by omega) ⟨by omega, IM26, CM26, (gFr.c (gFr.c (gFr.c (gFr.c gFr.rf FM2 rfl) FM6 rfl) FM22 rfl) FM26 rfl)⟩
        · refine g_iconst (n := 41) X dX7_readFact_40 rfl ?_
          refine g_goto (tgt := 45) X dX7_readFact_41 (by decide) ?_
          exact hq _ _ _ _ dX7_readFact_45 (by omega) ⟨by omega, IM26, CM26, (gFr.c (gFr.c (gFr.c (gFr.c gFr.rf FM2 rfl) FM6 rfl) FM22 rfl) FM26 rfl)⟩
  · refine g_iconst (n := 10) X dX7_readFact_9 rfl ?_
    exact hq _ _ _ _ dX7_readFact_10 (by omega) ⟨by omega, IM2, CM2, (gFr.c gFr.rf FM2 rfl)⟩
theorem dX7_readCondition_0 : decode cX7_readCondition 0 = .ok (.aload_n 0, 1) := dc_42 (by decide +kernel)
theorem dX7_readCondition_1 : decode cX7_readCondition 1 = .ok (.iconst 0, 1) := dc_3 (by decide +kernel)
theorem dX7_readCondition_2 : decode cX7_readCondition 2 = .ok (.putfield 102, 3) := dc_181 0 102 (by decide +kernel)
theorem dX7_readCondition_5 : decode cX7_readCondition 5 = .ok (.aload_n 0, 1) := dc_42 (by decide +kernel)
theorem dX7_readCondition_6 : decode cX7_readCondition 6 = .ok (.iconst 0, 1) := dc_3 (by decide +kernel)
theorem dX7_readCondition_7 : decode cX7_readCondition 7 = .ok (.putfield 105, 3) := dc_181 0 105 (by decide +kernel)
theorem dX7_readCondition_10 : decode cX7_readCondition 10 = .ok (.iconst 1, 1) := dc_4 (by decide +kernel)
theorem dX7_readCondition_11 : decode cX7_readCondition 11 = .ok (.istore_n 1, 1) := dc_60 (by decide +kernel)
theorem dX7_readCondition_12 : decode cX7_readCondition 12 = .ok (.iconst 0, 1) := dc_3 (by decide +kernel)
theorem dX7_readCondition_13 : decode cX7_readCondition 13 = .ok (.istore_n 2, 1) := dc_61 (by decide +kernel)
theorem dX7_readCondition_14 : decode cX7_readCondition 14 = .ok (.iload_n 2, 1) := dc_28 (by decide +kernel)
theorem dX7_readCondition_15 : decode cX7_readCondition 15 = .ok (.sipush 150, 3) := dc_17 0 150 150 (by decide +kernel)
theorem dX7_readCondition_18 : decode cX7_readCondition 18 = .ok (.if_icmp .ge 182, 3) := dc_162 0 182 182 (by decide +kernel)
theorem dX7_readCondition_21 : decode cX7_readCondition 21 = .ok (.aload_n 0, 1) := dc_42 (by decide +kernel)
theorem dX7_readCondition_22 : decode cX7_readCondition 22 = .ok (.getfield 23, 3) := dc_180 0 23 (by decide +kernel)
theorem dX7_readCondition_25 : decode cX7_readCondition 25 = .ok (.aload_n 0, 1) := dc_42 (by decide +kernel)
theorem dX7_readCondition_26 : decode cX7_readCondition 26 = .ok (.getfield 22, 3) := dc_180 0 22 (by decide +kernel)
theorem dX7_readCondition_29 : decode cX7_readCondition 29 = .ok (.if_icmp .ge 171, 3) := dc_162 0 171 171 (by decide +kernel)
theorem dX7_readCondition_200 : decode cX7_readCondition 200 = .ok (.iload_n 1, 1) := dc_27 (by decide +kernel)
theorem dX7_readCondition_201 : decode cX7_readCondition 201 = .ok (.ifCond .ne 14, 3) := dc_154 0 14 14 (by decide +kernel)
theorem dX7_readCondition_215 : decode cX7_readCondition 215 = .ok (.iconst 0, 1) := dc_3 (by decide +kernel)
theorem dX7_readCondition_216 : decode cX7_readCondition 216 = .ok (.ireturn, 1) := dc_172 (by decide +kernel)
theorem dX7_readCondition_32 : decode cX7_readCondition 32 = .ok (.aload_n 0, 1) := dc_42 (by decide +kernel)
theorem dX7_readCondition_33 : decode cX7_readCondition 33 = .ok (.getfield 9, 3) := dc_180 0 9 (by decide +kernel)
theorem dX7_readCondition_36 : decode cX7_readCondition 36 = .ok (.aload_n 0, 1) := dc_42 (by decide +kernel)
theorem dX7_readCondition_37 : decode cX7_readCondition 37 = .ok (.getfield 23, 3) := dc_180 0 23 (by decide +kernel)
theorem dX7_readCondition_40 : decode cX7_readCondition 40 = .ok (.baload, 1) := dc_51 (by decide +kernel)
theorem dX7_readCondition_41 : decode cX7_readCondition 41 = .ok (.istore_n 3, 1) := dc_62 (by decide +kernel)
theorem dX7_readCondition_42 : decode cX7_readCondition 42 = .ok (.iload_n 1, 1) := dc_27 (by decide +kernel)
theorem dX7_readCondition_43 : decode cX7_readCondition 43 = .ok (.ifCond .eq 71, 3) := dc_153 0 71 71 (by decide +kernel)
theorem dX7_readCondition_46 : decode cX7_readCondition 46 = .ok (.iload_n 3, 1) := dc_29 (by decide +kernel)
theorem dX7_readCondition_47 : decode cX7_readCondition 47 = .ok (.bipush 33, 2) := dc_16 33 33 (by decide +kernel)
theorem dX7_readCondition_49 : decode cX7_readCondition 49 = .ok (.if_icmp .eq 9, 3) := dc_159 0 9 9 (by decide +kernel)
theorem dX7_readCondition_58 : decode cX7_readCondition 58 = .ok (.aload_n 0, 1) := dc_42 (by decide +kernel)
theorem dX7_readCondition_59 : decode cX7_readCondition 59 = .ok (.getfield 102, 3) := dc_180 0 102 (by decide +kernel)
theorem dX7_readCondition_62 : decode cX7_readCondition 62 = .ok (.bipush 6, 2) := dc_16 6 6 (by decide +kernel)
theorem dX7_readCondition_64 : decode cX7_readCondition 64 = .ok (.if_icmp .ne 5, 3) := dc_160 0 5 5 (by decide +kernel)
theorem dX7_readCondition_69 : decode cX7_readCondition 69 = .ok (.aload_n 0, 1) := dc_42 (by decide +kernel)
theorem dX7_readCondition_70 : decode cX7_readCondition 70 = .ok (.aload_n 0, 1) := dc_42 (by decide +kernel)
theorem dX7_readCondition_71 : decode cX7_readCondition 71 = .ok (.getfield 105, 3) := dc_180 0 105 (by decide +kernel)
theorem dX7_readCondition_74 : decode cX7_readCondition 74 = .ok (.iconst 1, 1) := dc_4 (by decide +kernel)
theorem dX7_readCondition_75 : decode cX7_readCondition 75 = .ok (.ishl, 1) := dc_120 (by decide +kernel)
theorem dX7_readCondition_76 : decode cX7_readCondition 76 = .ok (.iload_n 3, 1) := dc_29 (by decide +kernel)
theorem dX7_readCondition_77 : decode cX7_readCondition 77 = .ok (.bipush 33, 2) := dc_16 33 33 (by decide +kernel)
theorem dX7_readCondition_79 : decode cX7_readCondition 79 = .ok (.if_icmp .ne 7, 3) := dc_160 0 7 7 (by decide +kernel)
theorem dX7_readCondition_82 : decode cX7_readCondition 82 = .ok (.iconst 1, 1) := dc_4 (by decide +kernel)
theorem dX7_readCondition_83 : decode cX7_readCondition 83 = .ok (.goto 4, 3) := dc_167 0 4 4 (by decide +kernel)
theorem dX7_readCondition_87 : decode cX7_readCondition 87 = .ok (.ior, 1) := dc_128 (by decide +kernel)
theorem dX7_readCondition_88 : decode cX7_readCondition 88 = .ok (.putfield 105, 3) := dc_181 0 105 (by decide +kernel)
theorem dX7_readCondition_91 : decode cX7_readCondition 91 = .ok (.aload_n 0, 1) := dc_42 (by decide +kernel)
theorem dX7_readCondition_92 : decode cX7_readCondition 92 = .ok (.dup, 1) := dc_89 (by decide +kernel)
theorem dX7_readCondition_93 : decode cX7_readCondition 93 = .ok (.getfield 102, 3) := dc_180 0 102 (by decide +kernel)
theorem dX7_readCondition_96 : decode cX7_readCondition 96 = .ok (.iconst 1, 1) := dc_4 (by decide +kernel)
theorem dX7_readCondition_97 : decode cX7_readCondition 97 = .ok (.iadd, 1) := dc_96 (by decide +kernel)
theorem dX7_readCondition_98 : decode cX7_readCondition 98 = .ok (.putfield 102, 3) := dc_181 0 102 (by decide +kernel)
theorem dX7_readCondition_101 : decode cX7_readCondition 101 = .ok (.aload_n 0, 1) := dc_42 (by decide +kernel)
theorem dX7_readCondition_102 : decode cX7_readCondition 102 = .ok (.dup, 1) := dc_89 (by decide +kernel)
theorem dX7_readCondition_103 : decode cX7_readCondition 103 = .ok (.getfield 23, 3) := dc_180 0 23 (by decide +kernel)
theorem dX7_readCondition_106 : decode cX7_readCondition 106 = .ok (.iconst 1, 1) := dc_4 (by decide +kernel)
theorem dX7_readCondition_107 : decode cX7_readCondition 107 = .ok (.iadd, 1) := dc_96 (by decide +kernel)
theorem dX7_readCondition_108 : decode cX7_readCondition 108 = .ok (.putfield 23, 3) := dc_181 0 23 (by decide +kernel)
theorem dX7_readCondition_111 : decode cX7_readCondition 111 = .ok (.goto 83, 3) := dc_167 0 83 83 (by decide +kernel)
theorem dX7_readCondition_194 : decode cX7_readCondition 194 = .ok (.iinc 2 1, 3) := dc_132 2 1 1 (by decide +kernel)
theorem dX7_readCondition_197 : decode cX7_readCondition 197 = .ok (.goto (-183), 3) := dc_167 255 73 (-183) (by decide +kernel)
theorem dX7_readCondition_52 : decode cX7_readCondition 52 = .ok (.iload_n 3, 1) := dc_29 (by decide +kernel)
theorem dX7_readCondition_53 : decode cX7_readCondition 53 = .ok (.bipush 40, 2) := dc_16 40 40 (by decide +kernel)
theorem dX7_readCondition_55 : decode cX7_readCondition 55 = .ok (.if_icmp .ne 59, 3) := dc_160 0 59 59 (by decide +kernel)
theorem dX7_readCondition_114 : decode cX7_readCondition 114 = .ok (.iload_n 1, 1) := dc_27 (by decide +kernel)
theorem dX7_readCondition_115 : decode cX7_readCondition 115 = .ok (.ifCond .eq 21, 3) := dc_153 0 21 21 (by decide +kernel)
theorem dX7_readCondition_118 : decode cX7_readCondition 118 = .ok (.aload_n 0, 1) := dc_42 (by decide +kernel)
theorem dX7_readCondition_119 : decode cX7_readCondition 119 = .ok (.invokevirtual 108, 3) := dc_182 0 108 (by decide +kernel)
theorem kw_4_72 : (Jvm.Cond.methodLink "ParishUnion$Reader" (108 : Nat) ({ cls := "ParishUnion$Reader", name := "readFact", desc := "()Z" } : Jvm.MethodName)) ∈ gT := gT_of (tb_4 _ (List.mem_of_getElem? (i := 72) rfl)) rfl
theorem kw_4_75 : (Jvm.Cond.code ({ cls := "ParishUnion$Reader", name := "readFact", desc := "()Z" } : Jvm.MethodName) prog_9_method_10_code (1 : Nat) (Option.some Jvm.ClassFile.FieldType.boolean)) ∈ gT := gT_of (tb_4 _ (List.mem_of_getElem? (i := 75) rfl)) rfl
theorem okX7_readFact : gQok yX7_readFact cX7_readFact 1 (Option.some Jvm.ClassFile.FieldType.boolean) 0 := ⟨kw_4_75, kw_1_12, by decide +kernel, by decide +kernel, by decide +kernel⟩
theorem kw_4_74 : (Jvm.Cond.instanceMethod ({ cls := "ParishUnion$Reader", name := "readFact", desc := "()Z" } : Jvm.MethodName)) ∈ gT := gT_of (tb_4 _ (List.mem_of_getElem? (i := 74) rfl)) rfl
theorem kw_0_14 : (Jvm.Cond.selects "ParishUnion$Reader" ({ cls := "ParishUnion$Reader", name := "readFact", desc := "()Z" } : Jvm.MethodName) ({ cls := "ParishUnion$Reader", name := "readFact", desc := "()Z" } : Jvm.MethodName)) ∈ gT := gT_of (tb_0 _ (List.mem_of_getElem? (i := 14) rfl)) rfl
theorem dX7_readCondition_122 : decode cX7_readCondition 122 = .ok (.ifCond .ne 5, 3) := dc_154 0 5 5 (by decide +kernel)
theorem dX7_readCondition_127 : decode cX7_readCondition 127 = .ok (.iconst 0, 1) := dc_3 (by decide +kernel)
theorem dX7_readCondition_128 : decode cX7_readCondition 128 = .ok (.istore_n 1, 1) := dc_60 (by decide +kernel)
theorem dX7_readCondition_129 : decode cX7_readCondition 129 = .ok (.aload_n 0, 1) := dc_42 (by decide +kernel)
theorem dX7_readCondition_130 : decode cX7_readCondition 130 = .ok (.invokevirtual 111, 3) := dc_182 0 111 (by decide +kernel)
theorem kw_4_79 : (Jvm.Cond.methodLink "ParishUnion$Reader" (111 : Nat) ({ cls := "ParishUnion$Reader", name := "endNots", desc := "()V" } : Jvm.MethodName)) ∈ gT := gT_of (tb_4 _ (List.mem_of_getElem? (i := 79) rfl)) rfl
theorem kw_4_82 : (Jvm.Cond.code ({ cls := "ParishUnion$Reader", name := "endNots", desc := "()V" } : Jvm.MethodName) prog_9_method_8_code (2 : Nat) (Option.none : Option Jvm.ClassFile.FieldType)) ∈ gT := gT_of (tb_4 _ (List.mem_of_getElem? (i := 82) rfl)) rfl
theorem okX7_endNots : gQok yX7_endNots cX7_endNots 2 (Option.none : Option Jvm.ClassFile.FieldType) 0 := ⟨kw_4_82, kw_1_12, by decide +kernel, by decide +kernel, by decide +kernel⟩
theorem kw_4_81 : (Jvm.Cond.instanceMethod ({ cls := "ParishUnion$Reader", name := "endNots", desc := "()V" } : Jvm.MethodName)) ∈ gT := gT_of (tb_4 _ (List.mem_of_getElem? (i := 81) rfl)) rfl
theorem kw_0_15 : (Jvm.Cond.selects "ParishUnion$Reader" ({ cls := "ParishUnion$Reader", name := "endNots", desc := "()V" } : Jvm.MethodName) ({ cls := "ParishUnion$Reader", name := "endNots", desc := "()V" } : Jvm.MethodName)) ∈ gT := gT_of (tb_0 _ (List.mem_of_getElem? (i := 15) rfl)) rfl
theorem dX7_readCondition_133 : decode cX7_readCondition 133 = .ok (.goto 61, 3) := dc_167 0 61 61 (by decide +kernel)
theorem dX7_readCondition_125 : decode cX7_readCondition 125 = .ok (.iconst 0, 1) := dc_3 (by decide +kernel)
theorem dX7_readCondition_126 : decode cX7_readCondition 126 = .ok (.ireturn, 1) := dc_172 (by decide +kernel)
theorem dX7_readCondition_86 : decode cX7_readCondition 86 = .ok (.iconst 0, 1) := dc_3 (by decide +kernel)
theorem dX7_readCondition_204 : decode cX7_readCondition 204 = .ok (.aload_n 0, 1) := dc_42 (by decide +kernel)
theorem dX7_readCondition_205 : decode cX7_readCondition 205 = .ok (.getfield 102, 3) := dc_180 0 102 (by decide +kernel)
theorem dX7_readCondition_208 : decode cX7_readCondition 208 = .ok (.ifCond .ne 7, 3) := dc_154 0 7 7 (by decide +kernel)
theorem dX7_readCondition_211 : decode cX7_readCondition 211 = .ok (.iconst 1, 1) := dc_4 (by decide +kernel)
theorem dX7_readCondition_212 : decode cX7_readCondition 212 = .ok (.goto 4, 3) := dc_167 0 4 4 (by decide +kernel)
theorem dX7_readCondition_136 : decode cX7_readCondition 136 = .ok (.iload_n 3, 1) := dc_29 (by decide +kernel)
theorem dX7_readCondition_137 : decode cX7_readCondition 137 = .ok (.bipush 38, 2) := dc_16 38 38 (by decide +kernel)
theorem dX7_readCondition_139 : decode cX7_readCondition 139 = .ok (.if_icmp .eq 9, 3) := dc_159 0 9 9 (by decide +kernel)
theorem dX7_readCondition_148 : decode cX7_readCondition 148 = .ok (.iconst 1, 1) := dc_4 (by decide +kernel)
theorem dX7_readCondition_149 : decode cX7_readCondition 149 = .ok (.istore_n 1, 1) := dc_60 (by decide +kernel)
theorem dX7_readCondition_150 : decode cX7_readCondition 150 = .ok (.aload_n 0, 1) := dc_42 (by decide +kernel)
theorem dX7_readCondition_151 : decode cX7_readCondition 151 = .ok (.dup, 1) := dc_89 (by decide +kernel)
theorem dX7_readCondition_152 : decode cX7_readCondition 152 = .ok (.getfield 23, 3) := dc_180 0 23 (by decide +kernel)
theorem dX7_readCondition_155 : decode cX7_readCondition 155 = .ok (.iconst 1, 1) := dc_4 (by decide +kernel)
theorem dX7_readCondition_156 : decode cX7_readCondition 156 = .ok (.iadd, 1) := dc_96 (by decide +kernel)
theorem dX7_readCondition_157 : decode cX7_readCondition 157 = .ok (.putfield 23, 3) := dc_181 0 23 (by decide +kernel)
theorem dX7_readCondition_160 : decode cX7_readCondition 160 = .ok (.goto 34, 3) := dc_167 0 34 34 (by decide +kernel)
theorem dX7_readCondition_142 : decode cX7_readCondition 142 = .ok (.iload_n 3, 1) := dc_29 (by decide +kernel)
theorem dX7_readCondition_143 : decode cX7_readCondition 143 = .ok (.bipush 124, 2) := dc_16 124 124 (by decide +kernel)
theorem dX7_readCondition_145 : decode cX7_readCondition 145 = .ok (.if_icmp .ne 18, 3) := dc_160 0 18 18 (by decide +kernel)
theorem dX7_readCondition_163 : decode cX7_readCondition 163 = .ok (.iload_n 3, 1) := dc_29 (by decide +kernel)
theorem dX7_readCondition_164 : decode cX7_readCondition 164 = .ok (.bipush 41, 2) := dc_16 41 41 (by decide +kernel)
theorem dX7_readCondition_166 : decode cX7_readCondition 166 = .ok (.if_icmp .ne 34, 3) := dc_160 0 34 34 (by decide +kernel)
theorem dX7_readCondition_169 : decode cX7_readCondition 169 = .ok (.aload_n 0, 1) := dc_42 (by decide +kernel)
theorem dX7_readCondition_170 : decode cX7_readCondition 170 = .ok (.getfield 102, 3) := dc_180 0 102 (by decide +kernel)
theorem dX7_readCondition_173 : decode cX7_readCondition 173 = .ok (.ifCond .le 27, 3) := dc_158 0 27 27 (by decide +kernel)
theorem dX7_readCondition_176 : decode cX7_readCondition 176 = .ok (.aload_n 0, 1) := dc_42 (by decide +kernel)
theorem dX7_readCondition_177 : decode cX7_readCondition 177 = .ok (.invokevirtual 114, 3) := dc_182 0 114 (by decide +kernel)
theorem dX7_readCondition_180 : decode cX7_readCondition 180 = .ok (.aload_n 0, 1) := dc_42 (by decide +kernel)
theorem dX7_readCondition_181 : decode cX7_readCondition 181 = .ok (.invokevirtual 111, 3) := dc_182 0 111 (by decide +kernel)
theorem dX7_readCondition_184 : decode cX7_readCondition 184 = .ok (.aload_n 0, 1) := dc_42 (by decide +kernel)
theorem dX7_readCondition_185 : decode cX7_readCondition 185 = .ok (.dup, 1) := dc_89 (by decide +kernel)
theorem dX7_readCondition_186 : decode cX7_readCondition 186 = .ok (.getfield 23, 3) := dc_180 0 23 (by decide +kernel)
theorem dX7_readCondition_189 : decode cX7_readCondition 189 = .ok (.iconst 1, 1) := dc_4 (by decide +kernel)
theorem dX7_readCondition_190 : decode cX7_readCondition 190 = .ok (.iadd, 1) := dc_96 (by decide +kernel)
theorem dX7_readCondition_191 : decode cX7_readCondition 191 = .ok (.putfield 23, 3) := dc_181 0 23 (by decide +kernel)
theorem dX7_readCondition_67 : decode cX7_readCondition 67 = .ok (.iconst 0, 1) := dc_3 (by decide +kernel)
theorem dX7_readCondition_68 : decode cX7_readCondition 68 = .ok (.ireturn, 1) := dc_172 (by decide +kernel)
abbrev R_X7_readCondition : Room := { frames := 6, cells := 0, slots := 0, locals := 127 }
set_option maxRecDepth 100000 in
set_option maxHeartbeats 4000000 in
theorem s_X7_readCondition {l : Launch} {n0 : Nat} {D : va_G} {cA : Nat → ClassId} {M : gM} (o : Int) (r_o : 87 ≤ o ∧ o ≤ 147 ∧ (o - 87) % 6 = 0) {sz : Nat} (hsz : 206 ≤ sz) (I : gI sz M) (C : gC sz M) (ht : M 159 0 = o + 1 + 1)  : Met l yX7_readCondition (gWsOf yX7_readCondition cX7_readCondition 4 (Option.some Jvm.ClassFile.FieldType.boolean)) R_X7_readCondition (gPc n0 D cA [gA n0 159] M sz) (gQi n0 D cA sz (fun z M1 => (0 ≤ z ∧ z ≤ 1) ∧ gI sz M1 ∧ gC sz M1 ∧ gFr 603979776 M M1)) 0 0 (fun q => n0 ≤ q) := by
  refine gMetZ [gA n0 159] (by decide) (Nat.le_of_ble_eq_true rfl) ⟨rfl, rfl⟩ ?_
  intro p e s m args below meth cd Q X hq
  have X : gCx p s m args meth cd n0 D cA "ParishUnion$Reader" cX7_readCondition 4 := X
  show G p l e R_X7_readCondition s m args below meth cd n0 D cA 4 Q 0 0 M sz 0 [(0, gA n0 159)] []
  refine g_aload_n (n := 1) X 0 dX7_readCondition_0 rfl rfl rfl ?_
  refine g_iconst (n := 2) X dX7_readCondition_1 rfl ?_
  refine gp_7_3 (n := 5) X (by decide) (gsz hsz (by decide)) lay_159 kw_2_214 dX7_readCondition_2 rfl ?_
  refine G.nm (fun M1 e2 => ?_)
  have IM1 : gI sz M1 := gI.set I rc_159_3.1 (by omega) e2
  have CM1 : gC sz M1 := gC.set C rc_159_3.2.1 e2
  refine g_aload_n (n := 6) X 0 dX7_readCondition_5 rfl rfl rfl ?_
  refine g_iconst (n := 7) X dX7_readCondition_6 rfl ?_
  refine gp_7_4 (n := 10) X (by decide) (gsz hsz (by decide)) lay_159 kw_2_215 dX7_readCondition_7 rfl ?_
  refine G.nm (fun M3 e4 => ?_)
  have IM3 : gI sz M3 := gI.set IM1 rc_159_4.1 (by omega) e4
  have CM3 : gC sz M3 := gC.set CM1 rc_159_4.2.1 e4
  refine g_iconst (n := 11) X dX7_readCondition_10 rfl ?_
  refine g_istore_n (n := 12) (L' := [(1, gJ 1), (0, gA n0 159)]) X dX7_readCondition_11 rfl (by decide) rfl rfl ?_
  refine g_iconst (n := 13) X dX7_readCondition_12 rfl ?_
  refine g_istore_n (n := 14) (L' := [(2, gJ 0), (1, gJ 1), (0, gA n0 159)]) X dX7_readCondition_13 rfl (by decide) rfl rfl ?_
  have j8 : ∀ (N1475 : Nat) (v5 v6 : Int) (M7 : gM) , (0 ≤ v5 ∧ v5 ≤ 1) → (0 ≤ v6 ∧ v6 ≤ 150) → gI sz M7 → gC sz M7 → gFr 603979776 M3 M7 → (150 - v6).toNat < N1475 → G p l e R_X7_readCondition s m args below meth cd n0 D cA 4 Q 0 0 M7 sz 14 [(0, gA n0 159), (1, gJ v5), (2, gJ v6)] [] := by
    intro N1475; induction N1475 with
    | zero => intro v5 v6 M7 rv5 rv6 IM7 CM7 FM7 hm1477; exfalso; omega
    | succ N1475 ih1476 =>
      intro v5 v6 M7 rv5 rv6 IM7 CM7 FM7 hm1477
      refine g_iload_n (n := 15) X 2 dX7_readCondition_14 rfl rfl rfl ?_
      refine g_sipush (n := 18) X dX7_readCondition_15 (by decide +kernel) rfl ?_
      refine g_icmp_ge (n := 21) (tgt := 200) X dX7_readCondition_18 (by decide) (by omega) (by omega) rfl (fun c1478 => ?_) (fun c1478 => ?_)
      · refine g_iload_n (n := 201) X 1 dX7_readCondition_200 rfl rfl rfl ?_
        refine g_if_ne (n := 204) (tgt := 215) X dX7_readCondition_201 (by decide) (by omega) rfl (fun c1479 => ?_) (fun c1479 => ?_)
        · refine g_iconst (n := 216) X dX7_readCondition_215 rfl ?_
          exact hq _ _ _ _ dX7_readCondition_216 (by omega) ⟨by omega, IM7, CM7, (gFr.c (gFr.s (gFr.s gFr.rf e2 rc_159_3.2.2 rfl) e4 rc_159_4.2.2 rfl) FM7 rfl)⟩
        · refine g_aload_n (n := 205) X 0 dX7_readCondition_204 rfl rfl rfl ?_
          obtain ⟨v1480, hv1480, rv1480⟩ := gRd IM7 (by decide) (gsz hsz (by decide)) rc_159_3.1
          refine gg_7_3 (n := 208) (z := v1480) X (by decide) (gsz hsz (by decide)) lay_159 kw_2_214 dX7_readCondition_205 rfl hv1480 ?_
          refine g_if_ne (n := 211) (tgt := 215) X dX7_readCondition_208 (by decide) (by omega) rfl (fun c1481 => ?_) (fun c1481 => ?_)
          · refine g_iconst (n := 216) X dX7_readCondition_215 rfl ?_
            exact hq _ _ _ _ dX7_readCondition_216 (by omega) ⟨by omega, IM7, CM7, (gFr.c (gFr.s (gFr.s gFr.rf e2 rc_159_3.2.2 rfl) e4 rc_159_4.2.2 rfl) FM7 rfl)⟩
          · refine g_iconst (n := 212) X dX7_readCondition_211 rfl ?_
            refine g_goto (tgt := 216) X dX7_readCondition_212 (by decide) ?_
            exact hq _ _ _ _ dX7_readCondition_216 (by omega) ⟨by omega, IM7, CM7, (gFr.c (gFr.s (gFr.s gFr.rf e2 rc_159_3.2.2 rfl) e4 rc_159_4.2.2 rfl) FM7 rfl)⟩
      · refine g_aload_n (n := 22) X 0 dX7_readCondition_21 rfl rfl rfl ?_
        obtain ⟨v1482, hv1482, rv1482⟩ := gRd IM7 (by decide) (gsz hsz (by decide)) rc_159_2.1
        refine gg_7_2 (n := 25) (z := v1482) X (by decide) (gsz hsz (by decide)) lay_159 kw_2_213 dX7_readCondition_22 rfl hv1482 ?_
        refine g_aload_n (n := 26) X 0 dX7_readCondition_25 rfl rfl rfl ?_
        obtain ⟨v1483, hv1483, rv1483⟩ := gRd IM7 (by decide) (gsz hsz (by decide)) rc_159_1.1
        refine gg_7_1 (n := 29) (z := v1483) X (by decide) (gsz hsz (by decide)) lay_159 kw_2_212 dX7_readCondition_26 rfl hv1483 ?_
        refine g_icmp_ge (n := 32) (tgt := 200) X dX7_readCondition_29 (by decide) (by omega) (by omega) rfl (fun c1484 => ?_) (fun c1484 => ?_)
        · refine g_iload_n (n := 201) X 1 dX7_readCondition_200 rfl rfl rfl ?_
          refine g_if_ne (n := 204) (tgt := 215) X dX7_readCondition_201 (by decide) (by omega) rfl (fun c1485 => ?_) (fun c1485 => ?_)
          · refine g_iconst (n := 216) X dX7_readCondition_215 rfl ?_
            exact hq _ _ _ _ dX7_readCondition_216 (by omega) ⟨by omega, IM7, CM7, (gFr.c (gFr.s (gFr.s gFr.rf e2 rc_159_3.2.2 rfl) e4 rc_159_4.2.2 rfl) FM7 rfl)⟩
          · refine g_aload_n (n := 205) X 0 dX7_readCondition_204 rfl rfl rfl ?_
            obtain ⟨v1486, hv1486, rv1486⟩ := gRd IM7 (by decide) (gsz hsz (by decide)) rc_159_3.1
            refine gg_7_3 (n := 208) (z := v1486) X (by decide) (gsz hsz (by decide)) lay_159 kw_2_214 dX7_readCondition_205 rfl hv1486 ?_
            refine g_if_ne (n := 211) (tgt := 215) X dX7_readCondition_208 (by decide) (by omega) rfl (fun c1487 => ?_) (fun c1487 => ?_)
            · refine g_iconst (n := 216) X dX7_readCondition_215 rfl ?_
              exact hq _ _ _ _ dX7_readCondition_216 (by omega) ⟨by omega, IM7, CM7, (gFr.c (gFr.s (gFr.s gFr.rf e2 rc_159_3.2.2 rfl) e4 rc_159_4.2.2 rfl) FM7 rfl)⟩
            · refine g_iconst (n := 212) X dX7_readCondition_211 rfl ?_
              refine g_goto (tgt := 216) X dX7_readCondition_212 (by decide) ?_
              exact hq _ _ _ _ dX7_readCondition_216 (by omega) ⟨by omega, IM7, CM7, (gFr.c (gFr.s (gFr.s gFr.rf e2 rc_159_3.2.2 rfl) e4 rc_159_4.2.2 rfl) FM7 rfl)⟩
        · refine g_aload_n (n := 33) X 0 dX7_readCondition_32 rfl rfl rfl ?_
          refine gg_7_0 (n := 36) (z := o + 1) X (by decide) (gsz hsz (by decide)) lay_159 kw_2_211 dX7_readCondition_33 rfl ((gFr.at FM7 rc_159_0.2.2 rfl).trans ((congrFun (congrFun e4 _) _).trans ((gset_ne (by omega)).trans ((congrFun (congrFun e2 _) _).trans ((gset_ne (by omega)).trans ht))))) (by omega) ?_
          refine g_aload_n (n := 37) X 0 dX7_readCondition_36 rfl rfl rfl ?_
          refine gg_7_2 (n := 40) (z := v1482) X (by decide) (gsz hsz (by decide)) lay_159 kw_2_213 dX7_readCondition_37 rfl hv1482 ?_
          obtain ⟨v1488, hv1488, rv1488⟩ := gRd IM7 (A1o0 r_o) (A1osz hsz r_o) (rAA_1 r_o v1482).1
          refine g_bald2 (n := 41) (v := v1488) X (A1o0 r_o) (A1osz hsz r_o) (lay2_A1 r_o) (by omega) (by omega) (by decide) dX7_readCondition_40 rfl hv1488 ?_
          refine g_istore_n (n := 42) (L' := [(3, gJ v1488), (0, gA n0 159), (1, gJ v5), (2, gJ v6)]) X dX7_readCondition_41 rfl (by decide) rfl rfl ?_
          refine g_iload_n (n := 43) X 2 dX7_readCondition_42 rfl rfl rfl ?_
          refine g_if_eq (n := 46) (tgt := 114) X dX7_readCondition_43 (by decide) (by omega) rfl (fun c1489 => ?_) (fun c1489 => ?_)
          · refine g_iload_n (n := 115) X 2 dX7_readCondition_114 rfl rfl rfl ?_
            refine g_if_eq (n := 118) (tgt := 136) X dX7_readCondition_115 (by decide) (by omega) rfl (fun c1490 => ?_) (fun c1490 => by exfalso; omega)
            refine g_iload_n (n := 137) X 0 dX7_readCondition_136 rfl rfl rfl ?_
            refine g_bipush (n := 139) X dX7_readCondition_137 (by decide +kernel) rfl ?_
            refine g_icmp_eq (n := 142) (tgt := 148) X dX7_readCondition_139 (by decide) (by omega) (by omega) rfl (fun c1491 => ?_) (fun c1491 => ?_)
            · refine g_iconst (n := 149) X dX7_readCondition_148 rfl ?_
              refine g_istore_n (n := 150) (L' := [(1, gJ 1), (3, gJ v1488), (0, gA n0 159), (2, gJ v6)]) X dX7_readCondition_149 rfl (by decide) rfl rfl ?_
              refine g_aload_n (n := 151) X 2 dX7_readCondition_150 rfl rfl rfl ?_
              refine g_dup (n := 152) X dX7_readCondition_151 rfl rfl ?_
              refine gg_7_2 (n := 155) (z := v1482) X (by decide) (gsz hsz (by decide)) lay_159 kw_2_213 dX7_readCondition_152 rfl hv1482 ?_
              refine g_iconst (n := 156) X dX7_readCondition_155 rfl ?_
              refine g_iadd (n := 157) (z := v1482 + 1) X dX7_readCondition_156 (by omega) rfl ?_
              refine gp_7_2 (n := 160) X (by decide) (gsz hsz (by decide)) lay_159 kw_2_213 dX7_readCondition_157 rfl ?_
              refine G.nm (fun M1492 e1493 => ?_)
              have IM1492 : gI sz M1492 := gI.set IM7 rc_159_2.1 (by omega) e1493
              have CM1492 : gC sz M1492 := gC.set CM7 rc_159_2.2.1 e1493
              refine g_goto (tgt := 194) X dX7_readCondition_160 (by decide) ?_
              refine g_iinc (n := 197) (w := v6 + 1) (L' := [(2, gJ (v6 + 1)), (1, gJ 1), (3, gJ v1488), (0, gA n0 159)]) X 3 dX7_readCondition_194 rfl rfl (by decide) rfl rfl ?_
              refine g_goto (tgt := 14) X dX7_readCondition_197 (by decide) ?_
              refine G.sub (L' := [(0, gA n0 159), (1, gJ 1), (2, gJ (v6 + 1))]) [3, 1, 0] rfl ?_
              exact ih1476 1 (v6 + 1) M1492 (by omega) (by omega) IM1492 CM1492 (gFr.s (gFr.c gFr.rf FM7 rfl) e1493 rc_159_2.2.2 rfl) (by omega)
            · refine g_iload_n (n := 143) X 0 dX7_readCondition_142 rfl rfl rfl ?_
              refine g_bipush (n := 145) X dX7_readCondition_143 (by decide +kernel) rfl ?_
              refine g_icmp_ne (n := 148) (tgt := 163) X dX7_readCondition_145 (by decide) (by omega) (by omega) rfl (fun c1494 => ?_) (fun c1494 => ?_)
              · refine g_iload_n (n := 164) X 0 dX7_readCondition_163 rfl rfl rfl ?_
                refine g_bipush (n := 166) X dX7_readCondition_164 (by decide +kernel) rfl ?_
                refine g_icmp_ne (n := 169) (tgt := 200) X dX7_readCondition_166 (by decide) (by omega) (by omega) rfl (fun c1495 => ?_) (fun c1495 => ?_)
                · refine g_iload_n (n := 201) X 2 dX7_readCondition_200 rfl rfl rfl ?_
                  refine g_if_ne (n := 204) (tgt := 215) X dX7_readCondition_201 (by decide) (by omega) rfl (fun c1496 => by exfalso; omega) (fun c1496 => ?_)
                  refine g_aload_n (n := 205) X 1 dX7_readCondition_204 rfl rfl rfl ?_
                  obtain ⟨v1497, hv1497, rv1497⟩ := gRd IM7 (by decide) (gsz hsz (by decide)) rc_159_3.1
                  refine gg_7_3 (n := 208) (z := v1497) X (by decide) (gsz hsz (by decide)) lay_159 kw_2_214 dX7_readCondition_205 rfl hv1497 ?_
                  refine g_if_ne (n := 211) (tgt := 215) X dX7_readCondition_208 (by decide) (by omega) rfl (fun c1498 => ?_) (fun c1498 => ?_)
                  · refine g_iconst (n := 216) X dX7_readCondition_215 rfl ?_
                    exact hq _ _ _ _ dX7_readCondition_216 (by omega) ⟨by omega, IM7, CM7, (gFr.c (gFr.s (gFr.s gFr.rf e2 rc_159_3.2.2 rfl) e4 rc_159_4.2.2 rfl) FM7 rfl)⟩
                  · refine g_iconst (n := 212) X dX7_readCondition_211 rfl ?_
                    refine g_goto (tgt := 216) X dX7_readCondition_212 (by decide) ?_
                    exact hq _ _ _ _ dX7_readCondition_216 (by omega) ⟨by omega, IM7, CM7, (gFr.c (gFr.s (gFr.s gFr.rf e2 rc_159_3.2.2 rfl) e4 rc_159_4.2.2 rfl) FM7 rfl)⟩
                · refine g_aload_n (n := 170) X 1 dX7_readCondition_169 rfl rfl rfl ?_
                  obtain ⟨v1499, hv1499, rv1499⟩ := gRd IM7 (by decide) (gsz hsz (by decide)) rc_159_3.1
                  refine gg_7_3 (n := 173) (z := v1499) X (by decide) (gsz hsz (by decide)) lay_159 kw_2_214 dX7_readCondition_170 rfl hv1499 ?_
                  refine g_if_le (n := 176) (tgt := 200) X dX7_readCondition_173 (by decide) (by omega) rfl (fun c1500 => ?_) (fun c1500 => ?_)
                  · refine g_iload_n (n := 201) X 2 dX7_readCondition_200 rfl rfl rfl ?_
                    refine g_if_ne (n := 204) (tgt := 215) X dX7_readCondition_201 (by decide) (by omega) rfl (fun c1501 => by exfalso; omega) (fun c1501 => ?_)
                    refine g_aload_n (n := 205) X 1 dX7_readCondition_204 rfl rfl rfl ?_
                    refine gg_7_3 (n := 208) (z := v1499) X (by decide) (gsz hsz (by decide)) lay_159 kw_2_214 dX7_readCondition_205 rfl hv1499 ?_
                    refine g_if_ne (n := 211) (tgt := 215) X dX7_readCondition_208 (by decide) (by omega) rfl (fun c1502 => by exfalso; omega) (fun c1502 => ?_)
                    refine g_iconst (n := 212) X dX7_readCondition_211 rfl ?_
                    refine g_goto (tgt := 216) X dX7_readCondition_212 (by decide) ?_
                    exact hq _ _ _ _ dX7_readCondition_216 (by omega) ⟨by omega, IM7, CM7, (gFr.c (gFr.s (gFr.s gFr.rf e2 rc_159_3.2.2 rfl) e4 rc_159_4.2.2 rfl) FM7 rfl)⟩
                  · refine g_aload_n (n := 177) X 1 dX7_readCondition_176 rfl rfl rfl ?_
                    refine g_callVv (n := 180) (As := []) (rest := []) (cs1 := 0) (ss1 := 0) X (s_X7_closeOne o r_o hsz IM7 CM7 ((gFr.at FM7 rc_159_0.2.2 rfl).trans ((congrFun (congrFun e4 _) _).trans ((gset_ne (by omega)).trans ((congrFun (congrFun e2 _) _).trans ((gset_ne (by omega)).trans ht))))) (by have := hv1499; omega)) okX7_closeOne kw_4_83 ⟨kw_4_85, kw_0_16⟩ ⟨rfl, rfl⟩ ⟨Nat.le_of_ble_eq_true rfl, Nat.le_of_ble_eq_true rfl⟩ rfl (by decide) (gsz hsz (by decide)) lay_159 rfl rfl (Nat.le_of_ble_eq_true rfl) ⟨Nat.le_of_ble_eq_true rfl, Nat.le_of_ble_eq_true rfl⟩ rfl rfl dX7_readCondition_177 rfl (fun M1504 P1505 => ?_)
                    obtain ⟨IM1504, CM1504, FM1504⟩ := P1505
                    refine g_aload_n (n := 181) X 1 dX7_readCondition_180 rfl rfl rfl ?_
                    refine g_callVv (n := 184) (As := []) (rest := []) (cs1 := 0) (ss1 := 0) X (s_X7_endNots o r_o hsz IM1504 CM1504 ((gFr.at FM1504 rc_159_0.2.2 rfl).trans ((gFr.at FM7 rc_159_0.2.2 rfl).trans ((congrFun (congrFun e4 _) _).trans ((gset_ne (by omega)).trans ((congrFun (congrFun e2 _) _).trans ((gset_ne (by omega)).trans ht))))))) okX7_endNots kw_4_79 ⟨kw_4_81, kw_0_15⟩ ⟨rfl, rfl⟩ ⟨Nat.le_of_ble_eq_true rfl, Nat.le_of_ble_eq_true rfl⟩ rfl (by decide) (gsz hsz (by decide)) lay_159 rfl rfl (Nat.le_of_ble_eq_true rfl) ⟨Nat.le_of_ble_eq_true rfl, Nat.le_of_ble_eq_true rfl⟩ rfl rfl dX7_readCondition_181 rfl (fun M1507 P1508 => ?_)
                    obtain ⟨IM1507, CM1507, FM1507⟩ := P1508
                    refine g_aload_n (n := 185) X 1 dX7_readCondition_184 rfl rfl rfl ?_
                    refine g_dup (n := 186) X dX7_readCondition_185 rfl rfl ?_
                    refine gg_7_2 (n := 189) (z := v1482) X (by decide) (gsz hsz (by decide)) lay_159 kw_2_213 dX7_readCondition_186 rfl ((gFr.at FM1507 rc_159_2.2.2 rfl).trans ((gFr.at FM1504 rc_159_2.2.2 rfl).trans hv1482)) ?_
                    refine g_iconst (n := 190) X dX7_readCondition_189 rfl ?_
                    refine g_iadd (n := 191) (z := v1482 + 1) X dX7_readCondition_190 (by omega) rfl ?_
                    refine gp_7_2 (n := 194) X (by decide) (gsz hsz (by decide)) lay_159 kw_2_213 dX7_readCondition_191 rfl ?_
                    refine G.nm (fun M1509 e1510 => ?_)
                    have IM1509 : gI sz M1509 := gI.set IM1507 rc_159_2.1 (by omega) e1510
                    have CM1509 : gC sz M1509 := gC.set CM1507 rc_159_2.2.1 e1510
                    refine g_iinc (n := 197) (w := v6 + 1) (L' := [(2, gJ (v6 + 1)), (3, gJ v1488), (0, gA n0 159), (1, gJ v5)]) X 3 dX7_readCondition_194 rfl rfl (by decide) rfl rfl ?_
                    refine g_goto (tgt := 14) X dX7_readCondition_197 (by decide) ?_
                    refine G.sub (L' := [(0, gA n0 159), (1, gJ v5), (2, gJ (v6 + 1))]) [2, 3, 0] rfl ?_
                    exact ih1476 v5 (v6 + 1) M1509 (by omega) (by omega) IM1509 CM1509 (gFr.s (gFr.c (gFr.c (gFr.c gFr.rf FM7 rfl) FM1504 rfl) FM1507 rfl) e1510 rc_159_2.2.2 rfl) (by omega)
              · refine g_iconst (n := 149) X dX7_readCondition_148 rfl ?_
                refine g_istore_n (n := 150) (L' := [(1, gJ 1), (3, gJ v1488), (0, gA n0 159), (2, gJ v6)]) X dX7_readCondition_149 rfl (by decide) rfl rfl ?_
                refine g_aload_n (n := 151) X 2 dX7_readCondition_150 rfl rfl rfl ?_
                refine g_dup (n := 152) X dX7_readCondition_151 rfl rfl ?_
                refine gg_7_2 (n := 155) (z := v1482) X (by decide) (gsz hsz (by decide)) lay_159 kw_2_213 dX7_readCondition_152 rfl hv1482 ?_
                refine g_iconst (n := 156) X dX7_readCondition_155 rfl ?_
                refine g_iadd (n := 157) (z := v1482 + 1) X dX7_readCondition_156 (by omega) rfl ?_
                refine gp_7_2 (n := 160) X (by decide) (gsz hsz (by decide)) lay_159 kw_2_213 dX7_readCondition_157 rfl ?_
                refine G.nm (fun M1511 e1512 => ?_)
                have IM1511 : gI sz M1511 := gI.set IM7 rc_159_2.1 (by omega) e1512
                have CM1511 : gC sz M1511 := gC.set CM7 rc_159_2.2.1 e1512
                refine g_goto (tgt := 194) X dX7_readCondition_160 (by decide) ?_
                refine g_iinc (n := 197) (w := v6 + 1) (L' := [(2, gJ (v6 + 1)), (1, gJ 1), (3, gJ v1488), (0, gA n0 159)]) X 3 dX7_readCondition_194 rfl rfl (by decide) rfl rfl ?_
                refine g_goto (tgt := 14) X dX7_readCondition_197 (by decide) ?_
                refine G.sub (L' := [(0, gA n0 159), (1, gJ 1), (2, gJ (v6 + 1))]) [3, 1, 0] rfl ?_
                exact ih1476 1 (v6 + 1) M1511 (by omega) (by omega) IM1511 CM1511 (gFr.s (gFr.c gFr.rf FM7 rfl) e1512 rc_159_2.2.2 rfl) (by omega)
          · refine g_iload_n (n := 47) X 0 dX7_readCondition_46 rfl rfl rfl ?_
            refine g_bipush (n := 49) X dX7_readCondition_47 (by decide +kernel) rfl ?_
            refine g_icmp_eq (n := 52) (tgt := 58) X dX7_readCondition_49 (by decide) (by omega) (by omega) rfl (fun c1513 => ?_) (fun c1513 => ?_)
            · refine g_aload_n (n := 59) X 1 dX7_readCondition_58 rfl rfl rfl ?_
              obtain ⟨v1514, hv1514, rv1514⟩ := gRd IM7 (by decide) (gsz hsz (by decide)) rc_159_3.1
              refine gg_7_3 (n := 62) (z := v1514) X (by decide) (gsz hsz (by decide)) lay_159 kw_2_214 dX7_readCondition_59 rfl hv1514 ?_
              refine g_bipush (n := 64) X dX7_readCondition_62 (by decide +kernel) rfl ?_
              refine g_icmp_ne (n := 67) (tgt := 69) X dX7_readCondition_64 (by decide) (by omega) (by omega) rfl (fun c1515 => ?_) (fun c1515 => ?_)
              · refine g_aload_n (n := 70) X 1 dX7_readCondition_69 rfl rfl rfl ?_
                refine g_aload_n (n := 71) X 1 dX7_readCondition_70 rfl rfl rfl ?_
                obtain ⟨v1516, hv1516, rv1516⟩ := gRd IM7 (by decide) (gsz hsz (by decide)) rc_159_4.1
                refine gg_7_4 (n := 74) (z := v1516) X (by decide) (gsz hsz (by decide)) lay_159 kw_2_215 dX7_readCondition_71 rfl hv1516 ?_
                refine g_iconst (n := 75) X dX7_readCondition_74 rfl ?_
                refine g_ishlA (n := 76) X dX7_readCondition_75 rfl (fun v1517 rv1517 xv1517 => ?_)
                clear xv1517
                refine g_iload_n (n := 77) X 0 dX7_readCondition_76 rfl rfl rfl ?_
                refine g_bipush (n := 79) X dX7_readCondition_77 (by decide +kernel) rfl ?_
                refine g_icmp_ne (n := 82) (tgt := 86) X dX7_readCondition_79 (by decide) (by omega) (by omega) rfl (fun c1518 => by exfalso; omega) (fun c1518 => ?_)
                refine g_iconst (n := 83) X dX7_readCondition_82 rfl ?_
                refine g_goto (tgt := 87) X dX7_readCondition_83 (by decide) ?_
                refine g_iorA (n := 88) X dX7_readCondition_87 rfl (fun v1519 rv1519 xv1519 => ?_)
                clear xv1519
                refine gp_7_4 (n := 91) X (by decide) (gsz hsz (by decide)) lay_159 kw_2_215 dX7_readCondition_88 rfl ?_
                refine G.nm (fun M1520 e1521 => ?_)
                have IM1520 : gI sz M1520 := gI.set IM7 rc_159_4.1 (by omega) e1521
                have CM1520 : gC sz M1520 := gC.set CM7 rc_159_4.2.1 e1521
                refine g_aload_n (n := 92) X 1 dX7_readCondition_91 rfl rfl rfl ?_
                refine g_dup (n := 93) X dX7_readCondition_92 rfl rfl ?_
                refine gg_7_3 (n := 96) (z := v1514) X (by decide) (gsz hsz (by decide)) lay_159 kw_2_214 dX7_readCondition_93 rfl ((congrFun (congrFun e1521 _) _).trans ((gset_ne (by omega)).trans hv1514)) ?_
                refine g_iconst (n := 97) X dX7_readCondition_96 rfl ?_
                refine g_iadd (n := 98) (z := v1514 + 1) X dX7_readCondition_97 (by omega) rfl ?_
                refine gp_7_3 (n := 101) X (by decide) (gsz hsz (by decide)) lay_159 kw_2_214 dX7_readCondition_98 rfl ?_
                refine G.nm (fun M1522 e1523 => ?_)
                have IM1522 : gI sz M1522 := gI.set IM1520 rc_159_3.1 (by omega) e1523
                have CM1522 : gC sz M1522 := gC.set CM1520 rc_159_3.2.1 e1523
                refine g_aload_n (n := 102) X 1 dX7_readCondition_101 rfl rfl rfl ?_
                refine g_dup (n := 103) X dX7_readCondition_102 rfl rfl ?_
                refine gg_7_2 (n := 106) (z := v1482) X (by decide) (gsz hsz (by decide)) lay_159 kw_2_213 dX7_readCondition_103 rfl ((congrFun (congrFun e1523 _) _).trans ((gset_ne (by omega)).trans ((congrFun (congrFun e1521 _) _).trans ((gset_ne (by omega)).trans hv1482)))) ?_
                refine g_iconst (n := 107) X dX7_readCondition_106 rfl ?_
                refine g_iadd (n := 108) (z := v1482 + 1) X dX7_readCondition_107 (by omega) rfl ?_
                refine gp_7_2 (n := 111) X (by decide) (gsz hsz (by decide)) lay_159 kw_2_213 dX7_readCondition_108 rfl ?_
                refine G.nm (fun M1524 e1525 => ?_)
                have IM1524 : gI sz M1524 := gI.set IM1522 rc_159_2.1 (by omega) e1525
                have CM1524 : gC sz M1524 := gC.set CM1522 rc_159_2.2.1 e1525
                refine g_goto (tgt := 194) X dX7_readCondition_111 (by decide) ?_
                refine g_iinc (n := 197) (w := v6 + 1) (L' := [(2, gJ (v6 + 1)), (3, gJ v1488), (0, gA n0 159), (1, gJ v5)]) X 3 dX7_readCondition_194 rfl rfl (by decide) rfl rfl ?_
                refine g_goto (tgt := 14) X dX7_readCondition_197 (by decide) ?_
                refine G.sub (L' := [(0, gA n0 159), (1, gJ v5), (2, gJ (v6 + 1))]) [2, 3, 0] rfl ?_
                exact ih1476 v5 (v6 + 1) M1524 (by omega) (by omega) IM1524 CM1524 (gFr.s (gFr.s (gFr.s (gFr.c gFr.rf FM7 rfl) e1521 rc_159_4.2.2 rfl) e1523 rc_159_3.2.2 rfl) e1525 rc_159_2.2.2 rfl) (by omega)
              · refine g_iconst (n := 68) X dX7_readCondition_67 rfl ?_
                exact hq _ _ _ _ dX7_readCondition_68 (by omega) ⟨by omega, IM7, CM7, (gFr.c (gFr.s (gFr.s gFr.rf e2 rc_159_3.2.2 rfl) e4 rc_159_4.2.2 rfl) FM7 rfl)⟩
            · refine g_iload_n (n := 53) X 0 dX7_readCondition_52 rfl rfl rfl ?_
              refine g_bipush (n := 55) X dX7_readCondition_53 (by decide +kernel) rfl ?_
              refine g_icmp_ne (n := 58) (tgt := 114) X dX7_readCondition_55 (by decide) (by omega) (by omega) rfl (fun c1526 => ?_) (fun c1526 => ?_)
              · refine g_iload_n (n := 115) X 2 dX7_readCondition_114 rfl rfl rfl ?_
                refine g_if_eq (n := 118) (tgt := 136) X dX7_readCondition_115 (by decide) (by omega) rfl (fun c1527 => by exfalso; omega) (fun c1527 => ?_)
                refine g_aload_n (n := 119) X 1 dX7_readCondition_118 rfl rfl rfl ?_
                refine g_callVi (n := 122) (As := []) (rest := []) (cs1 := 0) (ss1 := 0) X (s_X7_readFact o r_o hsz IM7 CM7 ((gFr.at FM7 rc_159_0.2.2 rfl).trans ((congrFun (congrFun e4 _) _).trans ((gset_ne (by omega)).trans ((congrFun (congrFun e2 _) _).trans ((gset_ne (by omega)).trans ht)))))) okX7_readFact kw_4_72 ⟨kw_4_74, kw_0_14⟩ ⟨rfl, rfl⟩ ⟨Nat.le_of_ble_eq_true rfl, Nat.le_of_ble_eq_true rfl⟩ rfl (by decide) (gsz hsz (by decide)) lay_159 rfl rfl (Nat.le_of_ble_eq_true rfl) ⟨Nat.le_of_ble_eq_true rfl, Nat.le_of_ble_eq_true rfl⟩ rfl rfl dX7_readCondition_119 rfl (fun v1528 M1529 P1530 => ?_)
                obtain ⟨rv1528, IM1529, CM1529, FM1529⟩ := P1530
                refine g_if_ne (n := 125) (tgt := 127) X dX7_readCondition_122 (by decide) (by omega) rfl (fun c1531 => ?_) (fun c1531 => ?_)
                · refine g_iconst (n := 128) X dX7_readCondition_127 rfl ?_
                  refine g_istore_n (n := 129) (L' := [(1, gJ 0), (3, gJ v1488), (0, gA n0 159), (2, gJ v6)]) X dX7_readCondition_128 rfl (by decide) rfl rfl ?_
                  refine g_aload_n (n := 130) X 2 dX7_readCondition_129 rfl rfl rfl ?_
                  refine g_callVv (n := 133) (As := []) (rest := []) (cs1 := 0) (ss1 := 0) X (s_X7_endNots o r_o hsz IM1529 CM1529 ((gFr.at FM1529 rc_159_0.2.2 rfl).trans ((gFr.at FM7 rc_159_0.2.2 rfl).trans ((congrFun (congrFun e4 _) _).trans ((gset_ne (by omega)).trans ((congrFun (congrFun e2 _) _).trans ((gset_ne (by omega)).trans ht))))))) okX7_endNots kw_4_79 ⟨kw_4_81, kw_0_15⟩ ⟨rfl, rfl⟩ ⟨Nat.le_of_ble_eq_true rfl, Nat.le_of_ble_eq_true rfl⟩ rfl (by decide) (gsz hsz (by decide)) lay_159 rfl rfl (Nat.le_of_ble_eq_true rfl) ⟨Nat.le_of_ble_eq_true rfl, Nat.le_of_ble_eq_true rfl⟩ rfl rfl dX7_readCondition_130 rfl (fun M1533 P1534 => ?_)
                  obtain ⟨IM1533, CM1533, FM1533⟩ := P1534
                  refine g_goto (tgt := 194) X dX7_readCondition_133 (by decide) ?_
                  refine g_iinc (n := 197) (w := v6 + 1) (L' := [(2, gJ (v6 + 1)), (1, gJ 0), (3, gJ v1488), (0, gA n0 159)]) X 3 dX7_readCondition_194 rfl rfl (by decide) rfl rfl ?_
                  refine g_goto (tgt := 14) X dX7_readCondition_197 (by decide) ?_
                  refine G.sub (L' := [(0, gA n0 159), (1, gJ 0), (2, gJ (v6 + 1))]) [3, 1, 0] rfl ?_
                  exact ih1476 0 (v6 + 1) M1533 (by omega) (by omega) IM1533 CM1533 (gFr.c (gFr.c (gFr.c gFr.rf FM7 rfl) FM1529 rfl) FM1533 rfl) (by omega)
                · refine g_iconst (n := 126) X dX7_readCondition_125 rfl ?_
                  exact hq _ _ _ _ dX7_readCondition_126 (by omega) ⟨by omega, IM1529, CM1529, (gFr.c (gFr.c (gFr.s (gFr.s gFr.rf e2 rc_159_3.2.2 rfl) e4 rc_159_4.2.2 rfl) FM7 rfl) FM1529 rfl)⟩
              · refine g_aload_n (n := 59) X 1 dX7_readCondition_58 rfl rfl rfl ?_
                obtain ⟨v1535, hv1535, rv1535⟩ := gRd IM7 (by decide) (gsz hsz (by decide)) rc_159_3.1
                refine gg_7_3 (n := 62) (z := v1535) X (by decide) (gsz hsz (by decide)) lay_159 kw_2_214 dX7_readCondition_59 rfl hv1535 ?_
                refine g_bipush (n := 64) X dX7_readCondition_62 (by decide +kernel) rfl ?_
                refine g_icmp_ne (n := 67) (tgt := 69) X dX7_readCondition_64 (by decide) (by omega) (by omega) rfl (fun c1536 => ?_) (fun c1536 => ?_)
                · refine g_aload_n (n := 70) X 1 dX7_readCondition_69 rfl rfl rfl ?_
                  refine g_aload_n (n := 71) X 1 dX7_readCondition_70 rfl rfl rfl ?_
                  obtain ⟨v1537, hv1537, rv1537⟩ := gRd IM7 (by decide) (gsz hsz (by decide)) rc_159_4.1
                  refine gg_7_4 (n := 74) (z := v1537) X (by decide) (gsz hsz (by decide)) lay_159 kw_2_215 dX7_readCondition_71 rfl hv1537 ?_
                  refine g_iconst (n := 75) X dX7_readCondition_74 rfl ?_
                  refine g_ishlA (n := 76) X dX7_readCondition_75 rfl (fun v1538 rv1538 xv1538 => ?_)
                  clear xv1538
                  refine g_iload_n (n := 77) X 0 dX7_readCondition_76 rfl rfl rfl ?_
                  refine g_bipush (n := 79) X dX7_readCondition_77 (by decide +kernel) rfl ?_
                  refine g_icmp_ne (n := 82) (tgt := 86) X dX7_readCondition_79 (by decide) (by omega) (by omega) rfl (fun c1539 => ?_) (fun c1539 => by exfalso; omega)
                  refine g_iconst (n := 87) X dX7_readCondition_86 rfl ?_
                  refine g_iorE (n := 88) (z := v1538) X dX7_readCondition_87 (gi_or0 _) rfl ?_
                  refine gp_7_4 (n := 91) X (by decide) (gsz hsz (by decide)) lay_159 kw_2_215 dX7_readCondition_88 rfl ?_
                  refine G.nm (fun M1540 e1541 => ?_)
                  have IM1540 : gI sz M1540 := gI.set IM7 rc_159_4.1 (by omega) e1541
                  have CM1540 : gC sz M1540 := gC.set CM7 rc_159_4.2.1 e1541
                  refine g_aload_n (n := 92) X 1 dX7_readCondition_91 rfl rfl rfl ?_
                  refine g_dup (n := 93) X dX7_readCondition_92 rfl rfl ?_
                  refine gg_7_3 (n := 96) (z := v1535) X (by decide) (gsz hsz (by decide)) lay_159 kw_2_214 dX7_readCondition_93 rfl ((congrFun (congrFun e1541 _) _).trans ((gset_ne (by omega)).trans hv1535)) ?_
                  refine g_iconst (n := 97) X dX7_readCondition_96 rfl ?_
                  refine g_iadd (n := 98) (z := v1535 + 1) X dX7_readCondition_97 (by omega) rfl ?_
                  refine gp_7_3 (n := 101) X (by decide) (gsz hsz (by decide)) lay_159 kw_2_214 dX7_readCondition_98 rfl ?_
                  refine G.nm (fun M1542 e1543 => ?_)
                  have IM1542 : gI sz M1542 := gI.set IM1540 rc_159_3.1 (by omega) e1543
                  have CM1542 : gC sz M1542 := gC.set CM1540 rc_159_3.2.1 e1543
                  refine g_aload_n (n := 102) X 1 dX7_readCondition_101 rfl rfl rfl ?_
                  refine g_dup (n := 103) X dX7_readCondition_102 rfl rfl ?_
                  refine gg_7_2 (n := 106) (z := v1482) X (by decide) (gsz hsz (by decide)) lay_159 kw_2_213 dX7_readCondition_103 rfl ((congrFun (congrFun e1543 _) _).trans ((gset_ne (by omega)).trans ((congrFun (congrFun e1541 _) _).trans ((gset_ne (by omega)).trans hv1482)))) ?_
                  refine g_iconst (n := 107) X dX7_readCondition_106 rfl ?_
                  refine g_iadd (n := 108) (z := v1482 + 1) X dX7_readCondition_107 (by omega) rfl ?_
                  refine gp_7_2 (n := 111) X (by decide) (gsz hsz (by decide)) lay_159 kw_2_213 dX7_readCondition_108 rfl ?_
                  refine G.nm (fun M1544 e1545 => ?_)
                  have IM1544 : gI sz M1544 := gI.set IM1542 rc_159_2.1 (by omega) e1545
                  have CM1544 : gC sz M1544 := gC.set CM1542 rc_159_2.2.1 e1545
                  refine g_goto (tgt := 194) X dX7_readCondition_111 (by decide) ?_
                  refine g_iinc (n := 197) (w := v6 + 1) (L' := [(2, gJ (v6 + 1)), (3, gJ v1488), (0, gA n0 159), (1, gJ v5)]) X 3 dX7_readCondition_194 rfl rfl (by decide) rfl rfl ?_
                  refine g_goto (tgt := 14) X dX7_readCondition_197 (by decide) ?_
                  refine G.sub (L' := [(0, gA n0 159), (1, gJ v5), (2, gJ (v6 + 1))]) [2, 3, 0] rfl ?_
                  exact ih1476 v5 (v6 + 1) M1544 (by omega) (by omega) IM1544 CM1544 (gFr.s (gFr.s (gFr.s (gFr.c gFr.rf FM7 rfl) e1541 rc_159_4.2.2 rfl) e1543 rc_159_3.2.2 rfl) e1545 rc_159_2.2.2 rfl) (by omega)
                · refine g_iconst (n := 68) X dX7_readCondition_67 rfl ?_
                  exact hq _ _ _ _ dX7_readCondition_68 (by omega) ⟨by omega, IM7, CM7, (gFr.c (gFr.s (gFr.s gFr.rf e2 rc_159_3.2.2 rfl) e4 rc_159_4.2.2 rfl) FM7 rfl)⟩
  refine G.sub (L' := [(0, gA n0 159), (1, gJ 1), (2, gJ 0)]) [2, 1, 0] rfl ?_
  exact j8 _ 1 0 M3 (by omega) (by omega) IM3 CM3 gFr.rf (Nat.lt_succ_self _)
theorem dX7_readClause_0 : decode cX7_readClause 0 = .ok (.aload_n 0, 1) := dc_42 (by decide +kernel)
theorem dX7_readClause_1 : decode cX7_readClause 1 = .ok (.invokevirtual 34, 3) := dc_182 0 34 (by decide +kernel)
theorem kw_3_218 : (Jvm.Cond.methodLink "ParishUnion$Reader" (34 : Nat) ({ cls := "ParishUnion$Reader", name := "readWord", desc := "()I" } : Jvm.MethodName)) ∈ gT := gT_of (tb_3 _ (List.mem_of_getElem? (i := 218) rfl)) rfl
theorem kw_3_221 : (Jvm.Cond.code ({ cls := "ParishUnion$Reader", name := "readWord", desc := "()I" } : Jvm.MethodName) prog_9_method_4_code (5 : Nat) (Option.some Jvm.ClassFile.FieldType.int)) ∈ gT := gT_of (tb_3 _ (List.mem_of_getElem? (i := 221) rfl)) rfl
theorem okX7_readWord : gQok yX7_readWord cX7_readWord 5 (Option.some Jvm.ClassFile.FieldType.int) 0 := ⟨kw_3_221, kw_1_12, by decide +kernel, by decide +kernel, by decide +kernel⟩
theorem kw_3_220 : (Jvm.Cond.instanceMethod ({ cls := "ParishUnion$Reader", name := "readWord", desc := "()I" } : Jvm.MethodName)) ∈ gT := gT_of (tb_3 _ (List.mem_of_getElem? (i := 220) rfl)) rfl
theorem kw_0_8 : (Jvm.Cond.selects "ParishUnion$Reader" ({ cls := "ParishUnion$Reader", name := "readWord", desc := "()I" } : Jvm.MethodName) ({ cls := "ParishUnion$Reader", name := "readWord", desc := "()I" } : Jvm.MethodName)) ∈ gT := gT_of (tb_0 _ (List.mem_of_getElem? (i := 8) rfl)) rfl
theorem dX7_readClause_4 : decode cX7_readClause 4 = .ok (.istore_n 2, 1) := dc_61 (by decide +kernel)
theorem dX7_readClause_5 : decode cX7_readClause 5 = .ok (.iload_n 2, 1) := dc_28 (by decide +kernel)
theorem dX7_readClause_6 : decode cX7_readClause 6 = .ok (.iconst (-1), 1) := dc_2 (by decide +kernel)
theorem dX7_readClause_7 : decode cX7_readClause 7 = .ok (.if_icmp .eq 12, 3) := dc_159 0 12 12 (by decide +kernel)
theorem dX7_readClause_19 : decode cX7_readClause 19 = .ok (.iconst 0, 1) := dc_3 (by decide +kernel)
theorem dX7_readClause_20 : decode cX7_readClause 20 = .ok (.ireturn, 1) := dc_172 (by decide +kernel)
theorem dX7_readClause_10 : decode cX7_readClause 10 = .ok (.aload_n 0, 1) := dc_42 (by decide +kernel)
theorem dX7_readClause_11 : decode cX7_readClause 11 = .ok (.bipush 32, 2) := dc_16 32 32 (by decide +kernel)
theorem dX7_readClause_13 : decode cX7_readClause 13 = .ok (.invokevirtual 30, 3) := dc_182 0 30 (by decide +kernel)
theorem dX7_readClause_16 : decode cX7_readClause 16 = .ok (.ifCond .ne 5, 3) := dc_154 0 5 5 (by decide +kernel)
theorem dX7_readClause_21 : decode cX7_readClause 21 = .ok (.aload_n 0, 1) := dc_42 (by decide +kernel)
theorem dX7_readClause_22 : decode cX7_readClause 22 = .ok (.iload_n 2, 1) := dc_28 (by decide +kernel)
theorem dX7_readClause_23 : decode cX7_readClause 23 = .ok (.invokevirtual 38, 3) := dc_182 0 38 (by decide +kernel)
theorem kw_4_48 : (Jvm.Cond.methodLink "ParishUnion$Reader" (38 : Nat) ({ cls := "ParishUnion$Reader", name := "readPart", desc := "(I)I" } : Jvm.MethodName)) ∈ gT := gT_of (tb_4 _ (List.mem_of_getElem? (i := 48) rfl)) rfl
theorem kw_4_51 : (Jvm.Cond.code ({ cls := "ParishUnion$Reader", name := "readPart", desc := "(I)I" } : Jvm.MethodName) prog_9_method_6_code (2 : Nat) (Option.some Jvm.ClassFile.FieldType.int)) ∈ gT := gT_of (tb_4 _ (List.mem_of_getElem? (i := 51) rfl)) rfl
theorem okX7_readPart : gQok yX7_readPart cX7_readPart 2 (Option.some Jvm.ClassFile.FieldType.int) 1 := ⟨kw_4_51, kw_1_12, by decide +kernel, by decide +kernel, by decide +kernel⟩
theorem kw_4_50 : (Jvm.Cond.instanceMethod ({ cls := "ParishUnion$Reader", name := "readPart", desc := "(I)I" } : Jvm.MethodName)) ∈ gT := gT_of (tb_4 _ (List.mem_of_getElem? (i := 50) rfl)) rfl
theorem kw_0_10 : (Jvm.Cond.selects "ParishUnion$Reader" ({ cls := "ParishUnion$Reader", name := "readPart", desc := "(I)I" } : Jvm.MethodName) ({ cls := "ParishUnion$Reader", name := "readPart", desc := "(I)I" } : Jvm.MethodName)) ∈ gT := gT_of (tb_0 _ (List.mem_of_getElem? (i := 10) rfl)) rfl
theorem dX7_readClause_26 : decode cX7_readClause 26 = .ok (.istore_n 3, 1) := dc_62 (by decide +kernel)
theorem dX7_readClause_27 : decode cX7_readClause 27 = .ok (.iload_n 3, 1) := dc_29 (by decide +kernel)
theorem dX7_readClause_28 : decode cX7_readClause 28 = .ok (.iconst (-1), 1) := dc_2 (by decide +kernel)
theorem dX7_readClause_29 : decode cX7_readClause 29 = .ok (.if_icmp .ne 5, 3) := dc_160 0 5 5 (by decide +kernel)
theorem dX7_readClause_34 : decode cX7_readClause 34 = .ok (.iload_n 2, 1) := dc_28 (by decide +kernel)
theorem dX7_readClause_35 : decode cX7_readClause 35 = .ok (.bipush 8, 2) := dc_16 8 8 (by decide +kernel)
theorem dX7_readClause_37 : decode cX7_readClause 37 = .ok (.if_icmp .eq 9, 3) := dc_159 0 9 9 (by decide +kernel)
theorem dX7_readClause_46 : decode cX7_readClause 46 = .ok (.iconst 1, 1) := dc_4 (by decide +kernel)
theorem dX7_readClause_47 : decode cX7_readClause 47 = .ok (.goto 4, 3) := dc_167 0 4 4 (by decide +kernel)
theorem dX7_readClause_51 : decode cX7_readClause 51 = .ok (.istore 4, 2) := dc_54 4 (by decide +kernel)
theorem dX7_readClause_53 : decode cX7_readClause 53 = .ok (.iload 4, 2) := dc_21 4 (by decide +kernel)
theorem dX7_readClause_55 : decode cX7_readClause 55 = .ok (.ifCond .eq 14, 3) := dc_153 0 14 14 (by decide +kernel)
theorem dX7_readClause_58 : decode cX7_readClause 58 = .ok (.aload_n 0, 1) := dc_42 (by decide +kernel)
theorem dX7_readClause_59 : decode cX7_readClause 59 = .ok (.bipush 32, 2) := dc_16 32 32 (by decide +kernel)
theorem dX7_readClause_61 : decode cX7_readClause 61 = .ok (.invokevirtual 30, 3) := dc_182 0 30 (by decide +kernel)
theorem dX7_readClause_64 : decode cX7_readClause 64 = .ok (.ifCond .ne 5, 3) := dc_154 0 5 5 (by decide +kernel)
theorem dX7_readClause_69 : decode cX7_readClause 69 = .ok (.aload_n 1, 1) := dc_43 (by decide +kernel)
theorem dX7_readClause_70 : decode cX7_readClause 70 = .ok (.iload_n 2, 1) := dc_28 (by decide +kernel)
theorem dX7_readClause_71 : decode cX7_readClause 71 = .ok (.iload_n 3, 1) := dc_29 (by decide +kernel)
theorem dX7_readClause_72 : decode cX7_readClause 72 = .ok (.aload_n 0, 1) := dc_42 (by decide +kernel)
theorem dX7_readClause_73 : decode cX7_readClause 73 = .ok (.getfield 23, 3) := dc_180 0 23 (by decide +kernel)
theorem dX7_readClause_76 : decode cX7_readClause 76 = .ok (.invokevirtual 42, 3) := dc_182 0 42 (by decide +kernel)
theorem kw_4_63 : (Jvm.Cond.methodLink "ParishUnion$Reader" (42 : Nat) ({ cls := "ParishUnion$Act", name := "addClause", desc := "(III)V" } : Jvm.MethodName)) ∈ gT := gT_of (tb_4 _ (List.mem_of_getElem? (i := 63) rfl)) rfl
theorem kw_4_66 : (Jvm.Cond.code ({ cls := "ParishUnion$Act", name := "addClause", desc := "(III)V" } : Jvm.MethodName) prog_2_method_4_code (4 : Nat) (Option.none : Option Jvm.ClassFile.FieldType)) ∈ gT := gT_of (tb_4 _ (List.mem_of_getElem? (i := 66) rfl)) rfl
theorem okX0_addClause : gQok yX0_addClause cX0_addClause 4 (Option.none : Option Jvm.ClassFile.FieldType) 3 := ⟨kw_4_66, kw_1_10, by decide +kernel, by decide +kernel, by decide +kernel⟩
theorem kw_4_64 : (Jvm.Cond.instanceMethod ({ cls := "ParishUnion$Act", name := "addClause", desc := "(III)V" } : Jvm.MethodName)) ∈ gT := gT_of (tb_4 _ (List.mem_of_getElem? (i := 64) rfl)) rfl
theorem kw_4_65 : (Jvm.Cond.selects "ParishUnion$Act" ({ cls := "ParishUnion$Act", name := "addClause", desc := "(III)V" } : Jvm.MethodName) ({ cls := "ParishUnion$Act", name := "addClause", desc := "(III)V" } : Jvm.MethodName)) ∈ gT := gT_of (tb_4 _ (List.mem_of_getElem? (i := 65) rfl)) rfl
theorem dX7_readClause_79 : decode cX7_readClause 79 = .ok (.iload 4, 2) := dc_21 4 (by decide +kernel)
theorem dX7_readClause_81 : decode cX7_readClause 81 = .ok (.ifCond .eq 10, 3) := dc_153 0 10 10 (by decide +kernel)
theorem dX7_readClause_84 : decode cX7_readClause 84 = .ok (.aload_n 0, 1) := dc_42 (by decide +kernel)
theorem dX7_readClause_85 : decode cX7_readClause 85 = .ok (.invokevirtual 46, 3) := dc_182 0 46 (by decide +kernel)
theorem kw_4_68 : (Jvm.Cond.methodLink "ParishUnion$Reader" (46 : Nat) ({ cls := "ParishUnion$Reader", name := "readCondition", desc := "()Z" } : Jvm.MethodName)) ∈ gT := gT_of (tb_4 _ (List.mem_of_getElem? (i := 68) rfl)) rfl
theorem kw_4_71 : (Jvm.Cond.code ({ cls := "ParishUnion$Reader", name := "readCondition", desc := "()Z" } : Jvm.MethodName) prog_9_method_7_code (4 : Nat) (Option.some Jvm.ClassFile.FieldType.boolean)) ∈ gT := gT_of (tb_4 _ (List.mem_of_getElem? (i := 71) rfl)) rfl
theorem okX7_readCondition : gQok yX7_readCondition cX7_readCondition 4 (Option.some Jvm.ClassFile.FieldType.boolean) 0 := ⟨kw_4_71, kw_1_12, by decide +kernel, by decide +kernel, by decide +kernel⟩
theorem kw_4_70 : (Jvm.Cond.instanceMethod ({ cls := "ParishUnion$Reader", name := "readCondition", desc := "()Z" } : Jvm.MethodName)) ∈ gT := gT_of (tb_4 _ (List.mem_of_getElem? (i := 70) rfl)) rfl
theorem kw_0_13 : (Jvm.Cond.selects "ParishUnion$Reader" ({ cls := "ParishUnion$Reader", name := "readCondition", desc := "()Z" } : Jvm.MethodName) ({ cls := "ParishUnion$Reader", name := "readCondition", desc := "()Z" } : Jvm.MethodName)) ∈ gT := gT_of (tb_0 _ (List.mem_of_getElem? (i := 13) rfl)) rfl
theorem dX7_readClause_88 : decode cX7_readClause 88 = .ok (.ifCond .eq 7, 3) := dc_153 0 7 7 (by decide +kernel)
theorem dX7_readClause_95 : decode cX7_readClause 95 = .ok (.iconst 0, 1) := dc_3 (by decide +kernel)
theorem dX7_readClause_96 : decode cX7_readClause 96 = .ok (.ireturn, 1) := dc_172 (by decide +kernel)
theorem dX7_readClause_91 : decode cX7_readClause 91 = .ok (.iconst 1, 1) := dc_4 (by decide +kernel)
theorem dX7_readClause_92 : decode cX7_readClause 92 = .ok (.goto 4, 3) := dc_167 0 4 4 (by decide +kernel)
theorem dX7_readClause_67 : decode cX7_readClause 67 = .ok (.iconst 0, 1) := dc_3 (by decide +kernel)
theorem dX7_readClause_68 : decode cX7_readClause 68 = .ok (.ireturn, 1) := dc_172 (by decide +kernel)
theorem dX7_readClause_40 : decode cX7_readClause 40 = .ok (.iload_n 2, 1) := dc_28 (by decide +kernel)
theorem dX7_readClause_41 : decode cX7_readClause 41 = .ok (.bipush 9, 2) := dc_16 9 9 (by decide +kernel)
theorem dX7_readClause_43 : decode cX7_readClause 43 = .ok (.if_icmp .ne 7, 3) := dc_160 0 7 7 (by decide +kernel)
theorem dX7_readClause_50 : decode cX7_readClause 50 = .ok (.iconst 0, 1) := dc_3 (by decide +kernel)
theorem dX7_readClause_32 : decode cX7_readClause 32 = .ok (.iconst 0, 1) := dc_3 (by decide +kernel)
theorem dX7_readClause_33 : decode cX7_readClause 33 = .ok (.ireturn, 1) := dc_172 (by decide +kernel)
abbrev R_X7_readClause : Room := { frames := 7, cells := 0, slots := 0, locals := 150 }
set_option maxRecDepth 100000 in
set_option maxHeartbeats 4000000 in
theorem s_X7_readClause {l : Launch} {n0 : Nat} {D : va_G} {cA : Nat → ClassId} {M : gM} (o : Int) (r_o : 87 ≤ o ∧ o ≤ 147 ∧ (o - 87) % 6 = 0) {sz : Nat} (hsz : 206 ≤ sz) (I : gI sz M) (C : gC sz M) (ht : M 159 0 = o + 1 + 1)  : Met l yX7_readClause (gWsOf yX7_readClause cX7_readClause 5 (Option.some Jvm.ClassFile.FieldType.boolean)) R_X7_readClause (gPc n0 D cA [gA n0 159, gA n0 o] M sz) (gQi n0 D cA sz (fun z M1 => (0 ≤ z ∧ z ≤ 1) ∧ gI sz M1 ∧ gC sz M1 ∧ gFr 603980032 M M1)) 0 0 (fun q => n0 ≤ q) := by
  refine gMetZ [gA n0 159, gA n0 o] (by decide) (Nat.le_of_ble_eq_true rfl) ⟨rfl, rfl⟩ ?_
  intro p e s m args below meth cd Q X hq
  have X : gCx p s m args meth cd n0 D cA "ParishUnion$Reader" cX7_readClause 5 := X
  show G p l e R_X7_readClause s m args below meth cd n0 D cA 5 Q 0 0 M sz 0 [(0, gA n0 159), (1, gA n0 o)] []
  refine g_aload_n (n := 1) X 0 dX7_readClause_0 rfl rfl rfl ?_
  refine g_callVi (n := 4) (As := []) (rest := []) (cs1 := 0) (ss1 := 0) X (s_X7_readWord o r_o hsz I C ht) okX7_readWord kw_3_218 ⟨kw_3_220, kw_0_8⟩ ⟨rfl, rfl⟩ ⟨Nat.le_of_ble_eq_true rfl, Nat.le_of_ble_eq_true rfl⟩ rfl (by decide) (gsz hsz (by decide)) lay_159 rfl rfl (Nat.le_of_ble_eq_true rfl) ⟨Nat.le_of_ble_eq_true rfl, Nat.le_of_ble_eq_true rfl⟩ rfl rfl dX7_readClause_1 rfl (fun v1 M2 P3 => ?_)
  obtain ⟨rv1, IM2, CM2, FM2⟩ := P3
  refine g_istore_n (n := 5) (L' := [(2, gJ v1), (0, gA n0 159), (1, gA n0 o)]) X dX7_readClause_4 rfl (by decide) rfl rfl ?_
  refine g_iload_n (n := 6) X 0 dX7_readClause_5 rfl rfl rfl ?_
  refine g_iconst (n := 7) X dX7_readClause_6 rfl ?_
  refine g_icmp_eq (n := 10) (tgt := 19) X dX7_readClause_7 (by decide) (by omega) (by omega) rfl (fun c4 => ?_) (fun c4 => ?_)
  · refine g_iconst (n := 20) X dX7_readClause_19 rfl ?_
    exact hq _ _ _ _ dX7_readClause_20 (by omega) ⟨by omega, IM2, CM2, (gFr.c gFr.rf FM2 rfl)⟩
  · refine g_aload_n (n := 11) X 1 dX7_readClause_10 rfl rfl rfl ?_
    refine g_bipush (n := 13) X dX7_readClause_11 (by decide +kernel) rfl ?_
    refine g_callVi (n := 16) (As := [gJ 32]) (rest := []) (cs1 := 0) (ss1 := 0) X (s_X7_skip 32 (by omega) o r_o hsz IM2 CM2 ((gFr.at FM2 rc_159_0.2.2 rfl).trans ht)) okX7_skip kw_4_44 ⟨kw_4_46, kw_0_9⟩ ⟨rfl, rfl⟩ ⟨Nat.le_of_ble_eq_true rfl, Nat.le_of_ble_eq_true rfl⟩ rfl (by decide) (gsz hsz (by decide)) lay_159 rfl rfl (Nat.le_of_ble_eq_true rfl) ⟨Nat.le_of_ble_eq_true rfl, Nat.le_of_ble_eq_true rfl⟩ rfl rfl dX7_readClause_13 rfl (fun v5 M6 P7 => ?_)
    obtain ⟨rv5, IM6, CM6, FM6⟩ := P7
    refine g_if_ne (n := 19) (tgt := 21) X dX7_readClause_16 (by decide) (by omega) rfl (fun c8 => ?_) (fun c8 => ?_)
    · refine g_aload_n (n := 22) X 1 dX7_readClause_21 rfl rfl rfl ?_
      refine g_iload_n (n := 23) X 0 dX7_readClause_22 rfl rfl rfl ?_
      refine g_callVi (n := 26) (As := [gJ v1]) (rest := []) (cs1 := 0) (ss1 := 0) X (s_X7_readPart v1 (by omega) o r_o hsz IM6 CM6 ((gFr.at FM6 rc_159_0.2.2 rfl).trans ((gFr.at FM2 rc_159_0.2.2 rfl).trans ht))) okX7_readPart kw_4_48 ⟨kw_4_50, kw_0_10⟩ ⟨rfl, rfl⟩ ⟨Nat.le_of_ble_eq_true rfl, Nat.le_of_ble_eq_true rfl⟩ rfl (by decide) (gsz hsz (by decide)) lay_159 rfl rfl (Nat.le_of_ble_eq_true rfl) ⟨Nat.le_of_ble_eq_true rfl, Nat.le_of_ble_eq_true rfl⟩ rfl rfl dX7_readClause_23 rfl (fun v9 M10 P11 => ?_)
      obtain ⟨rv9, IM10, CM10, FM10, xM10⟩ := P11
      refine g_istore_n (n := 27) (L' := [(3, gJ v9), (2, gJ v1), (0, gA n0 159), (1, gA n0 o)]) X dX7_readClause_26 rfl (by decide) rfl rfl ?_
      refine g_iload_n (n := 28) X 0 dX7_readClause_27 rfl rfl rfl ?_
      refine g_iconst (n := 29) X dX7_readClause_28 rfl ?_
      refine g_icmp_ne (n := 32) (tgt := 34) X dX7_readClause_29 (by decide) (by omega) (by omega) rfl (fun c12 => ?_) (fun c12 => ?_)
      · refine g_iload_n (n := 35) X 1 dX7_readClause_34 rfl rfl rfl ?_
        refine g_bipush (n := 37) X dX7_readClause_35 (by decide +kernel) rfl ?_
        refine g_icmp_eq (n := 40) (tgt := 46) X dX7_readClause_37 (by decide) (by omega) (by omega) rfl (fun c13 => ?_) (fun c13 => ?_)
        · refine g_iconst (n := 47) X dX7_readClause_46 rfl ?_
          refine g_goto (tgt := 51) X dX7_readClause_47 (by decide) ?_
          refine g_istore (n := 53) (L' := [(4, gJ 1), (3, gJ v9), (2, gJ v1), (0, gA n0 159), (1, gA n0 o)]) X dX7_readClause_51 (by decide) rfl rfl ?_
          refine g_iload (n := 55) X 0 dX7_readClause_53 rfl rfl ?_
          refine g_if_eq (n := 58) (tgt := 69) X dX7_readClause_55 (by decide) (by omega) rfl (fun c14 => by exfalso; omega) (fun c14 => ?_)
          refine g_aload_n (n := 59) X 3 dX7_readClause_58 rfl rfl rfl ?_
          refine g_bipush (n := 61) X dX7_readClause_59 (by decide +kernel) rfl ?_
          refine g_callVi (n := 64) (As := [gJ 32]) (rest := []) (cs1 := 0) (ss1 := 0) X (s_X7_skip 32 (by omega) o r_o hsz IM10 CM10 ((gFr.at FM10 rc_159_0.2.2 rfl).trans ((gFr.at FM6 rc_159_0.2.2 rfl).trans ((gFr.at FM2 rc_159_0.2.2 rfl).trans ht)))) okX7_skip kw_4_44 ⟨kw_4_46, kw_0_9⟩ ⟨rfl, rfl⟩ ⟨Nat.le_of_ble_eq_true rfl, Nat.le_of_ble_eq_true rfl⟩ rfl (by decide) (gsz hsz (by decide)) lay_159 rfl rfl (Nat.le_of_ble_eq_true rfl) ⟨Nat.le_of_ble_eq_true rfl, Nat.le_of_ble_eq_true rfl⟩ rfl rfl dX7_readClause_61 rfl (fun v15 M16 P17 => ?_)
          obtain ⟨rv15, IM16, CM16, FM16⟩ := P17
          refine g_if_ne (n := 67) (tgt := 69) X dX7_readClause_64 (by decide) (by omega) rfl (fun c18 => ?_) (fun c18 => ?_)
          · refine g_aload_n (n := 70) X 4 dX7_readClause_69 rfl rfl rfl ?_
            refine g_iload_n (n := 71) X 2 dX7_readClause_70 rfl rfl rfl ?_
            refine g_iload_n (n := 72) X 1 dX7_readClause_71 rfl rfl rfl ?_
            refine g_aload_n (n := 73) X 3 dX7_readClause_72 rfl rfl rfl ?_
            obtain ⟨v19, hv19, rv19⟩ := gRd IM16 (by decide) (gsz hsz (by decide)) rc_159_2.1
            refine gg_7_2 (n := 76) (z := v19) X (by decide) (gsz hsz (by decide)) lay_159 kw_2_213 dX7_readClause_73 rfl hv19 ?_
            refine g_callVv (n := 79) (As := [gJ v1, gJ v9, gJ v19]) (rest := []) (cs1 := 0) (ss1 := 0) X (s_X0_addClause o r_o v1 (by omega) v9 (by omega) v19 (by omega) hsz IM16 CM16 (by omega)) okX0_addClause kw_4_63 ⟨kw_4_64, kw_4_65⟩ ⟨rfl, rfl⟩ ⟨Nat.le_of_ble_eq_true rfl, Nat.le_of_ble_eq_true rfl⟩ rfl (Ao0 r_o) (Aosz hsz r_o) (lay2_A r_o) rfl rfl (Nat.le_of_ble_eq_true rfl) ⟨Nat.le_of_ble_eq_true rfl, Nat.le_of_ble_eq_true rfl⟩ rfl rfl dX7_readClause_76 rfl (fun M21 P22 => ?_)
            obtain ⟨IM21, CM21, FM21⟩ := P22
            refine g_iload (n := 81) X 0 dX7_readClause_79 rfl rfl ?_
            refine g_if_eq (n := 84) (tgt := 91) X dX7_readClause_81 (by decide) (by omega) rfl (fun c23 => by exfalso; omega) (fun c23 => ?_)
            refine g_aload_n (n := 85) X 3 dX7_readClause_84 rfl rfl rfl ?_
            refine g_callVi (n := 88) (As := []) (rest := []) (cs1 := 0) (ss1 := 0) X (s_X7_readCondition o r_o hsz IM21 CM21 ((gFr.at FM21 rc_159_0.2.2 rfl).trans ((gFr.at FM16 rc_159_0.2.2 rfl).trans ((gFr.at FM10 rc_159_0.2.2 rfl).trans ((gFr.at FM6 rc_159_0.2.2 rfl).trans ((gFr.at FM2 rc_159_0.2.2 rfl).trans ht)))))) okX7_readCondition kw_4_68 ⟨kw_4_70, kw_0_13⟩ ⟨rfl, rfl⟩ ⟨Nat.le_of_ble_eq_true rfl, Nat.le_of_ble_eq_true rfl⟩ rfl (by decide) (gsz hsz (by decide)) lay_159 rfl rfl (Nat.le_of_ble_eq_true rfl) ⟨Nat.le_of_ble_eq_true rfl, Nat.le_of_ble_eq_true rfl⟩ rfl rfl dX7_readClause_85 rfl (fun v24 M25 P26 => ?_)
            obtain ⟨rv24, IM25, CM25, FM25⟩ := P26
            refine g_if_eq (n := 91) (tgt := 95) X dX7_readClause_88 (by decide) (by omega) rfl (fun c27 => ?_) (fun c27 => ?_)
            · refine g_iconst (n := 96) X dX7_readClause_95 rfl ?_
              exact hq _ _ _ _ dX7_readClause_96 (by omega) ⟨by omega, IM25, CM25, (gFr.c (gFr.c (gFr.c (gFr.c (gFr.c (gFr.c gFr.rf FM2 rfl) FM6 rfl) FM10 rfl) FM16 rfl) FM21 rfl) FM25 rfl)⟩
            · refine g_iconst (n := 92) X dX7_readClause_91 rfl ?_
              refine g_goto (tgt := 96) X dX7_readClause_92 (by decide) ?_
              exact hq _ _ _ _ dX7_readClause_96 (by omega) ⟨by omega, IM25, CM25, (gFr.c (gFr.c (gFr.c (gFr.c (gFr.c (gFr.c gFr.rf FM2 rfl) FM6 rfl) FM10 rfl) FM16 rfl) FM21 rfl) FM25 rfl)⟩
          · refine g_iconst (n := 68) X dX7_readClause_67 rfl ?_
            exact hq _ _ _ _ dX7_readClause_68 (by omega) ⟨by omega, IM16, CM16, (gFr.c (gFr.c (gFr.c (gFr.c gFr.rf FM2 rfl) FM6 rfl) FM10 rfl) FM16 rfl)⟩
        · refine g_iload_n (n := 41) X 1 dX7_readClause_40 rfl rfl rfl ?_
          refine g_bipush (n := 43) X dX7_readClause_41 (by decide +kernel) rfl ?_
          refine g_icmp_ne (n := 46) (tgt := 50) X dX7_readClause_43 (by decide) (by omega) (by omega) rfl (fun c28 => ?_) (fun c28 => ?_)
          · refine g_iconst (n := 51) X dX7_readClause_50 rfl ?_
            refine g_istore (n := 53) (L' := [(4, gJ 0), (3, gJ v9), (2, gJ v1), (0, gA n0 159), (1, gA n0 o)]) X dX7_readClause_51 (by decide) rfl rfl ?_
            refine g_iload (n := 55) X 0 dX7_readClause_53 rfl rfl ?_
            refine g_if_eq (n := 58) (tgt := 69) X dX7_readClause_55 (by decide) (by omega) rfl (fun c29 => ?_) (fun c29 => by exfalso; omega)
            refine g_aload_n (n := 70) X 4 dX7_readClause_69 rfl rfl rfl ?_
            refine g_iload_n (n := 71) X 2 dX7_readClause_70 rfl rfl rfl ?_
            refine g_iload_n (n := 72) X 1 dX7_readClause_71 rfl rfl rfl ?_
            refine g_aload_n (n := 73) X 3 dX7_readClause_72 rfl rfl rfl ?_
            obtain ⟨v30, hv30, rv30⟩ := gRd IM10 (by decide) (gsz hsz (by decide)) rc_159_2.1
            refine gg_7_2 (n := 76) (z := v30) X (by decide) (gsz hsz (by decide)) lay_159 kw_2_213 dX7_readClause_73 rfl hv30 ?_
            refine g_callVv (n := 79) (As := [gJ v1, gJ v9, gJ v30]) (rest := []) (cs1 := 0) (ss1 := 0) X (s_X0_addClause o r_o v1 (by omega) v9 (by omega) v30 (by omega) hsz IM10 CM10 (by omega)) okX0_addClause kw_4_63 ⟨kw_4_64, kw_4_65⟩ ⟨rfl, rfl⟩ ⟨Nat.le_of_ble_eq_true rfl, Nat.le_of_ble_eq_true rfl⟩ rfl (Ao0 r_o) (Aosz hsz r_o) (lay2_A r_o) rfl rfl (Nat.le_of_ble_eq_true rfl) ⟨Nat.le_of_ble_eq_true rfl, Nat.le_of_ble_eq_true rfl⟩ rfl rfl dX7_readClause_76 rfl (fun M32 P33 => ?_)
            obtain ⟨IM32, CM32, FM32⟩ := P33
            refine g_iload (n := 81) X 0 dX7_readClause_79 rfl rfl ?_
            refine g_if_eq (n := 84) (tgt := 91) X dX7_readClause_81 (by decide) (by omega) rfl (fun c34 => ?_) (fun c34 => by exfalso; omega)
            refine g_iconst (n := 92) X dX7_readClause_91 rfl ?_
            refine g_goto (tgt := 96) X dX7_readClause_92 (by decide) ?_
            exact hq _ _ _ _ dX7_readClause_96 (by omega) ⟨by omega, IM32, CM32, (gFr.c (gFr.c (gFr.c (gFr.c gFr.rf FM2 rfl) FM6 rfl) FM10 rfl) FM32 rfl)⟩
          · refine g_iconst (n := 47) X dX7_readClause_46 rfl ?_
            refine g_goto (tgt := 51) X dX7_readClause_47 (by decide) ?_
            refine g_istore (n := 53) (L' := [(4, gJ 1), (3, gJ v9), (2, gJ v1), (0, gA n0 159), (1, gA n0 o)]) X dX7_readClause_51 (by decide) rfl rfl ?_
            refine g_iload (n := 55) X 0 dX7_readClause_53 rfl rfl ?_
            refine g_if_eq (n := 58) (tgt := 69) X dX7_readClause_55 (by decide) (by omega) rfl (fun c35 => by exfalso; omega) (fun c35 => ?_)
            refine g_aload_n (n := 59) X 3 dX7_readClause_58 rfl rfl rfl ?_
            refine g_bipush (n := 61) X dX7_readClause_59 (by decide +kernel) rfl ?_
            refine g_callVi (n := 64) (As := [gJ 32]) (rest := []) (cs1 := 0) (ss1 := 0) X (s_X7_skip 32 (by omega) o r_o hsz IM10 CM10 ((gFr.at FM10 rc_159_0.2.2 rfl).trans ((gFr.at FM6 rc_159_0.2.2 rfl).trans ((gFr.at FM2 rc_159_0.2.2 rfl).trans ht)))) okX7_skip kw_4_44 ⟨kw_4_46, kw_0_9⟩ ⟨rfl, rfl⟩ ⟨Nat.le_of_ble_eq_true rfl, Nat.le_of_ble_eq_true rfl⟩ rfl (by decide) (gsz hsz (by decide)) lay_159 rfl rfl (Nat.le_of_ble_eq_true rfl) ⟨Nat.le_of_ble_eq_true rfl, Nat.le_of_ble_eq_true rfl⟩ rfl rfl dX7_readClause_61 rfl (fun v36 M37 P38 => ?_)
            obtain ⟨rv36, IM37, CM37, FM37⟩ := P38
            refine g_if_ne (n := 67) (tgt := 69) X dX7_readClause_64 (by decide) (by omega) rfl (fun c39 => ?_) (fun c39 => ?_)
            · refine g_aload_n (n := 70) X 4 dX7_readClause_69 rfl rfl rfl ?_
              refine g_iload_n (n := 71) X 2 dX7_readClause_70 rfl rfl rfl ?_
              refine g_iload_n (n := 72) X 1 dX7_readClause_71 rfl rfl rfl ?_
              refine g_aload_n (n := 73) X 3 dX7_readClause_72 rfl rfl rfl ?_
              obtain ⟨v40, hv40, rv40⟩ := gRd IM37 (by decide) (gsz hsz (by decide)) rc_159_2.1
              refine gg_7_2 (n := 76) (z := v40) X (by decide) (gsz hsz (by decide)) lay_159 kw_2_213 dX7_readClause_73 rfl hv40 ?_
              refine g_callVv (n := 79) (As := [gJ v1, gJ v9, gJ v40]) (rest := []) (cs1 := 0) (ss1 := 0) X (s_X0_addClause o r_o v1 (by omega) v9 (by omega) v40 (by omega) hsz IM37 CM37 (by omega)) okX0_addClause kw_4_63 ⟨kw_4_64, kw_4_65⟩ ⟨rfl, rfl⟩ ⟨Nat.le_of_ble_eq_true rfl, Nat.le_of_ble_eq_true rfl⟩ rfl (Ao0 r_o) (Aosz hsz r_o) (lay2_A r_o) rfl rfl (Nat.le_of_ble_eq_true rfl) ⟨Nat.le_of_ble_eq_true rfl, Nat.le_of_ble_eq_true rfl⟩ rfl rfl dX7_readClause_76 rfl (fun M42 P43 => ?_)
              obtain ⟨IM42, CM42, FM42⟩ := P43
              refine g_iload (n := 81) X 0 dX7_readClause_79 rfl rfl ?_
              refine g_if_eq (n := 84) (tgt := 91) X dX7_readClause_81 (by decide) (by omega) rfl (fun c44 => by exfalso; omega) (fun c44 => ?_)
              refine g_aload_n (n := 85) X 3 dX7_readClause_84 rfl rfl rfl ?_
              refine g_callVi (n := 88) (As := []) (rest := []) (cs1 := 0) (ss1 := 0) X (s_X7_readCondition o r_o hsz IM42 CM42 ((gFr.at FM42 rc_159_0.2.2 rfl).trans ((gFr.at FM37 rc_159_0.2.2 rfl).trans ((gFr.at FM10 rc_159_0.2.2 rfl).trans ((gFr.at FM6 rc_159_0.2.2 rfl).trans ((gFr.at FM2 rc_159_0.2.2 rfl).trans ht)))))) okX7_readCondition kw_4_68 ⟨kw_4_70, kw_0_13⟩ ⟨rfl, rfl⟩ ⟨Nat.le_of_ble_eq_true rfl, Nat.le_of_ble_eq_true rfl⟩ rfl (by decide) (gsz hsz (by decide)) lay_159 rfl rfl (Nat.le_of_ble_eq_true rfl) ⟨Nat.le_of_ble_eq_true rfl, Nat.le_of_ble_eq_true rfl⟩ rfl rfl dX7_readClause_85 rfl (fun v45 M46 P47 => ?_)
              obtain ⟨rv45, IM46, CM46, FM46⟩ := P47
              refine g_if_eq (n := 91) (tgt := 95) X dX7_readClause_88 (by decide) (by omega) rfl (fun c48 => ?_) (fun c48 => ?_)
              · refine g_iconst (n := 96) X dX7_readClause_95 rfl ?_
                exact hq _ _ _ _ dX7_readClause_96 (by omega) ⟨by omega, IM46, CM46, (gFr.c (gFr.c (gFr.c (gFr.c (gFr.c (gFr.c gFr.rf FM2 rfl) FM6 rfl) FM10 rfl) FM37 rfl) FM42 rfl) FM46 rfl)⟩
              · refine g_iconst (n := 92) X dX7_readClause_91 rfl ?_
                refine g_goto (tgt := 96) X dX7_readClause_92 (by decide) ?_
                exact hq _ _ _ _ dX7_readClause_96 (by omega) ⟨by omega, IM46, CM46, (gFr.c (gFr.c (gFr.c (gFr.c (gFr.c (gFr.c gFr.rf FM2 rfl) FM6 rfl) FM10 rfl) FM37 rfl) FM42 rfl) FM46 rfl)⟩
            · refine g_iconst (n := 68) X dX7_readClause_67 rfl ?_
              exact hq _ _ _ _ dX7_readClause_68 (by omega) ⟨by omega, IM37, CM37, (gFr.c (gFr.c (gFr.c (gFr.c gFr.rf FM2 rfl) FM6 rfl) FM10 rfl) FM37 rfl)⟩
      · refine g_iconst (n := 33) X dX7_readClause_32 rfl ?_
        exact hq _ _ _ _ dX7_readClause_33 (by omega) ⟨by omega, IM10, CM10, (gFr.c (gFr.c (gFr.c gFr.rf FM2 rfl) FM6 rfl) FM10 rfl)⟩
    · refine g_iconst (n := 20) X dX7_readClause_19 rfl ?_
      exact hq _ _ _ _ dX7_readClause_20 (by omega) ⟨by omega, IM6, CM6, (gFr.c (gFr.c gFr.rf FM2 rfl) FM6 rfl)⟩
theorem dX7_read_0 : decode cX7_read 0 = .ok (.aload_n 0, 1) := dc_42 (by decide +kernel)
theorem dX7_read_1 : decode cX7_read 1 = .ok (.aload_n 1, 1) := dc_43 (by decide +kernel)
theorem dX7_read_2 : decode cX7_read 2 = .ok (.getfield 15, 3) := dc_180 0 15 (by decide +kernel)
theorem kw_2_72 : (Jvm.Cond.fieldLink "ParishUnion$Reader" (15 : Nat) "ParishUnion$Act" "text" "[B") ∈ gT := gT_of (tb_2 _ (List.mem_of_getElem? (i := 72) rfl)) rfl
theorem dX7_read_5 : decode cX7_read 5 = .ok (.putfield 9, 3) := dc_181 0 9 (by decide +kernel)
theorem dX7_read_8 : decode cX7_read 8 = .ok (.aload_n 0, 1) := dc_42 (by decide +kernel)
theorem dX7_read_9 : decode cX7_read 9 = .ok (.aload_n 1, 1) := dc_43 (by decide +kernel)
theorem dX7_read_10 : decode cX7_read 10 = .ok (.getfield 18, 3) := dc_180 0 18 (by decide +kernel)
theorem kw_2_81 : (Jvm.Cond.fieldLink "ParishUnion$Reader" (18 : Nat) "ParishUnion$Act" "size" "I") ∈ gT := gT_of (tb_2 _ (List.mem_of_getElem? (i := 81) rfl)) rfl
theorem dX7_read_13 : decode cX7_read 13 = .ok (.putfield 22, 3) := dc_181 0 22 (by decide +kernel)
theorem dX7_read_16 : decode cX7_read 16 = .ok (.aload_n 0, 1) := dc_42 (by decide +kernel)
theorem dX7_read_17 : decode cX7_read 17 = .ok (.iconst 0, 1) := dc_3 (by decide +kernel)
theorem dX7_read_18 : decode cX7_read 18 = .ok (.putfield 23, 3) := dc_181 0 23 (by decide +kernel)
theorem dX7_read_21 : decode cX7_read 21 = .ok (.iconst 0, 1) := dc_3 (by decide +kernel)
theorem dX7_read_22 : decode cX7_read 22 = .ok (.istore_n 2, 1) := dc_61 (by decide +kernel)
theorem dX7_read_23 : decode cX7_read 23 = .ok (.iload_n 2, 1) := dc_28 (by decide +kernel)
theorem dX7_read_24 : decode cX7_read 24 = .ok (.bipush 8, 2) := dc_16 8 8 (by decide +kernel)
theorem dX7_read_26 : decode cX7_read 26 = .ok (.if_icmp .ge 55, 3) := dc_162 0 55 55 (by decide +kernel)
theorem dX7_read_29 : decode cX7_read 29 = .ok (.aload_n 0, 1) := dc_42 (by decide +kernel)
theorem dX7_read_30 : decode cX7_read 30 = .ok (.aload_n 1, 1) := dc_43 (by decide +kernel)
theorem dX7_read_31 : decode cX7_read 31 = .ok (.invokevirtual 26, 3) := dc_182 0 26 (by decide +kernel)
theorem kw_3_214 : (Jvm.Cond.methodLink "ParishUnion$Reader" (26 : Nat) ({ cls := "ParishUnion$Reader", name := "readClause", desc := "(LParishUnion$Act;)Z" } : Jvm.MethodName)) ∈ gT := gT_of (tb_3 _ (List.mem_of_getElem? (i := 214) rfl)) rfl
theorem kw_3_217 : (Jvm.Cond.code ({ cls := "ParishUnion$Reader", name := "readClause", desc := "(LParishUnion$Act;)Z" } : Jvm.MethodName) prog_9_method_3_code (5 : Nat) (Option.some Jvm.ClassFile.FieldType.boolean)) ∈ gT := gT_of (tb_3 _ (List.mem_of_getElem? (i := 217) rfl)) rfl
theorem okX7_readClause : gQok yX7_readClause cX7_readClause 5 (Option.some Jvm.ClassFile.FieldType.boolean) 1 := ⟨kw_3_217, kw_1_12, by decide +kernel, by decide +kernel, by decide +kernel⟩
theorem kw_3_216 : (Jvm.Cond.instanceMethod ({ cls := "ParishUnion$Reader", name := "readClause", desc := "(LParishUnion$Act;)Z" } : Jvm.MethodName)) ∈ gT := gT_of (tb_3 _ (List.mem_of_getElem? (i := 216) rfl)) rfl
theorem kw_0_7 : (Jvm.Cond.selects "ParishUnion$Reader" ({ cls := "ParishUnion$Reader", name := "readClause", desc := "(LParishUnion$Act;)Z" } : Jvm.MethodName) ({ cls := "ParishUnion$Reader", name := "readClause", desc := "(LParishUnion$Act;)Z" } : Jvm.MethodName)) ∈ gT := gT_of (tb_0 _ (List.mem_of_getElem? (i := 7) rfl)) rfl
theorem dX7_read_34 : decode cX7_read 34 = .ok (.ifCond .ne 8, 3) := dc_154 0 8 8 (by decide +kernel)
theorem dX7_read_42 : decode cX7_read 42 = .ok (.aload_n 0, 1) := dc_42 (by decide +kernel)
theorem dX7_read_43 : decode cX7_read 43 = .ok (.getfield 23, 3) := dc_180 0 23 (by decide +kernel)
theorem dX7_read_46 : decode cX7_read 46 = .ok (.aload_n 0, 1) := dc_42 (by decide +kernel)
theorem dX7_read_47 : decode cX7_read 47 = .ok (.getfield 22, 3) := dc_180 0 22 (by decide +kernel)
theorem dX7_read_50 : decode cX7_read 50 = .ok (.if_icmp .ne 5, 3) := dc_160 0 5 5 (by decide +kernel)
theorem dX7_read_55 : decode cX7_read 55 = .ok (.iload_n 2, 1) := dc_28 (by decide +kernel)
theorem dX7_read_56 : decode cX7_read 56 = .ok (.bipush 7, 2) := dc_16 7 7 (by decide +kernel)
theorem dX7_read_58 : decode cX7_read 58 = .ok (.if_icmp .eq 12, 3) := dc_159 0 12 12 (by decide +kernel)
theorem dX7_read_61 : decode cX7_read 61 = .ok (.aload_n 0, 1) := dc_42 (by decide +kernel)
theorem dX7_read_62 : decode cX7_read 62 = .ok (.bipush 59, 2) := dc_16 59 59 (by decide +kernel)
theorem dX7_read_64 : decode cX7_read 64 = .ok (.invokevirtual 30, 3) := dc_182 0 30 (by decide +kernel)
theorem dX7_read_67 : decode cX7_read 67 = .ok (.ifCond .ne 8, 3) := dc_154 0 8 8 (by decide +kernel)
theorem dX7_read_75 : decode cX7_read 75 = .ok (.iinc 2 1, 3) := dc_132 2 1 1 (by decide +kernel)
theorem dX7_read_78 : decode cX7_read 78 = .ok (.goto (-55), 3) := dc_167 255 201 (-55) (by decide +kernel)
theorem dX7_read_70 : decode cX7_read 70 = .ok (.aload_n 0, 1) := dc_42 (by decide +kernel)
theorem dX7_read_71 : decode cX7_read 71 = .ok (.getfield 23, 3) := dc_180 0 23 (by decide +kernel)
theorem dX7_read_74 : decode cX7_read 74 = .ok (.ireturn, 1) := dc_172 (by decide +kernel)
theorem dX7_read_53 : decode cX7_read 53 = .ok (.iconst (-1), 1) := dc_2 (by decide +kernel)
theorem dX7_read_54 : decode cX7_read 54 = .ok (.ireturn, 1) := dc_172 (by decide +kernel)
theorem dX7_read_37 : decode cX7_read 37 = .ok (.aload_n 0, 1) := dc_42 (by decide +kernel)
theorem dX7_read_38 : decode cX7_read 38 = .ok (.getfield 23, 3) := dc_180 0 23 (by decide +kernel)
theorem dX7_read_41 : decode cX7_read 41 = .ok (.ireturn, 1) := dc_172 (by decide +kernel)
abbrev R_X7_read : Room := { frames := 8, cells := 0, slots := 0, locals := 174 }
set_option maxRecDepth 100000 in
set_option maxHeartbeats 4000000 in
theorem s_X7_read {l : Launch} {n0 : Nat} {D : va_G} {cA : Nat → ClassId} {M : gM} (oa : Int) (r_oa : 87 ≤ oa ∧ oa ≤ 147 ∧ (oa - 87) % 6 = 0) {sz : Nat} (hsz : 206 ≤ sz) (I : gI sz M) (C : gC sz M)   : Met l yX7_read (gWsOf yX7_read cX7_read 3 (Option.some Jvm.ClassFile.FieldType.int)) R_X7_read (gPc n0 D cA [gA n0 159, gA n0 oa] M sz) (gQi n0 D cA sz (fun z M1 => (-1 ≤ z ∧ z ≤ 150) ∧ gI sz M1 ∧ gC sz M1 ∧ gFr 1006633216 M M1)) 0 0 (fun q => n0 ≤ q) := by
  refine gMetI [gA n0 159, gA n0 oa] (by decide) (Nat.le_of_ble_eq_true rfl) ⟨rfl, rfl⟩ ?_
  intro p e s m args below meth cd Q X hq
  have X : gCx p s m args meth cd n0 D cA "ParishUnion$Reader" cX7_read 3 := X
  show G p l e R_X7_read s m args below meth cd n0 D cA 3 Q 0 0 M sz 0 [(0, gA n0 159), (1, gA n0 oa)] []
  refine g_aload_n (n := 1) X 0 dX7_read_0 rfl rfl rfl ?_
  refine g_aload_n (n := 2) X 1 dX7_read_1 rfl rfl rfl ?_
  refine gg_0_0 (n := 5) (z := oa + 1) X (Ao0 r_oa) (Aosz hsz r_oa) (lay2_A r_oa) kw_2_72 dX7_read_2 rfl (rfA_0 I hsz r_oa) (by omega) ?_
  refine gp_7_0 (n := 8) X (by decide) (gsz hsz (by decide)) lay_159 kw_2_211 (by omega) dX7_read_5 rfl ?_
  refine G.nm (fun M1 e2 => ?_)
  have IM1 : gI sz M1 := gI.set I rc_159_0.1 (by omega) e2
  have CM1 : gC sz M1 := gC.set C rc_159_0.2.1 e2
  refine g_aload_n (n := 9) X 0 dX7_read_8 rfl rfl rfl ?_
  refine g_aload_n (n := 10) X 1 dX7_read_9 rfl rfl rfl ?_
  obtain ⟨v3, hv3, rv3⟩ := gRd IM1 (Ao0 r_oa) (Aosz hsz r_oa) (rA_5 r_oa).1
  refine gg_0_5 (n := 13) (z := v3) X (Ao0 r_oa) (Aosz hsz r_oa) (lay2_A r_oa) kw_2_81 dX7_read_10 rfl hv3 ?_
  refine gp_7_1 (n := 16) X (by decide) (gsz hsz (by decide)) lay_159 kw_2_212 dX7_read_13 rfl ?_
  refine G.nm (fun M4 e5 => ?_)
  have IM4 : gI sz M4 := gI.set IM1 rc_159_1.1 (by omega) e5
  have CM4 : gC sz M4 := gC.set CM1 rc_159_1.2.1 e5
  refine g_aload_n (n := 17) X 0 dX7_read_16 rfl rfl rfl ?_
  refine g_iconst (n := 18) X dX7_read_17 rfl ?_
  refine gp_7_2 (n := 21) X (by decide) (gsz hsz (by decide)) lay_159 kw_2_213 dX7_read_18 rfl ?_
  refine G.nm (fun M6 e7 => ?_)
  have IM6 : gI sz M6 := gI.set IM4 rc_159_2.1 (by omega) e7
  have CM6 : gC sz M6 := gC.set CM4 rc_159_2.2.1 e7
  refine g_iconst (n := 22) X dX7_read_21 rfl ?_
  refine g_istore_n (n := 23) (L' := [(2, gJ 0), (0, gA n0 159), (1, gA n0 oa)]) X dX7_read_22 rfl (by decide) rfl rfl ?_
  have j10 : ∀ (N81 : Nat) (v8 : Int) (M9 : gM) , (0 ≤ v8 ∧ v8 ≤ 7) → gI sz M9 → gC sz M9 → gFr 603980032 M6 M9 → (7 - v8).toNat < N81 → G p l e R_X7_read s m args below meth cd n0 D cA 3 Q 0 0 M9 sz 23 [(0, gA n0 159), (1, gA n0 oa), (2, gJ v8)] [] := by
    intro N81; induction N81 with
    | zero => intro v8 M9 rv8 IM9 CM9 FM9 hm83; exfalso; omega
    | succ N81 ih82 =>
      intro v8 M9 rv8 IM9 CM9 FM9 hm83
      refine g_iload_n (n := 24) X 2 dX7_read_23 rfl rfl rfl ?_
      refine g_bipush (n := 26) X dX7_read_24 (by decide +kernel) rfl ?_
      refine g_icmp_ge (n := 29) (tgt := 81) X dX7_read_26 (by decide) (by omega) (by omega) rfl (fun c84 => by exfalso; omega) (fun c84 => ?_)
      refine g_aload_n (n := 30) X 0 dX7_read_29 rfl rfl rfl ?_
      refine g_aload_n (n := 31) X 1 dX7_read_30 rfl rfl rfl ?_
      refine g_callVi (n := 34) (As := [gA n0 oa]) (rest := []) (cs1 := 0) (ss1 := 0) X (s_X7_readClause oa r_oa hsz IM9 CM9 ((gFr.at FM9 rc_159_0.2.2 rfl).trans ((congrFun (congrFun e7 _) _).trans ((gset_ne (by omega)).trans ((congrFun (congrFun e5 _) _).trans ((gset_ne (by omega)).trans ((congrFun (congrFun e2 _) _).trans (gset_eq _ _ _ _)))))))) okX7_readClause kw_3_214 ⟨kw_3_216, kw_0_7⟩ ⟨rfl, rfl⟩ ⟨Nat.le_of_ble_eq_true rfl, Nat.le_of_ble_eq_true rfl⟩ rfl (by decide) (gsz hsz (by decide)) lay_159 rfl rfl (Nat.le_of_ble_eq_true rfl) ⟨Nat.le_of_ble_eq_true rfl, Nat.le_of_ble_eq_true rfl⟩ rfl rfl dX7_read_31 rfl (fun v85 M86 P87 => ?_)
      obtain ⟨rv85, IM86, CM86, FM86⟩ := P87
      refine g_if_ne (n := 37) (tgt := 42) X dX7_read_34 (by decide) (by omega) rfl (fun c88 => ?_) (fun c88 => ?_)
      · refine g_aload_n (n := 43) X 0 dX7_read_42 rfl rfl rfl ?_
        obtain ⟨v89, hv89, rv89⟩ := gRd IM86 (by decide) (gsz hsz (by decide)) rc_159_2.1
        refine gg_7_2 (n := 46) (z := v89) X (by decide) (gsz hsz (by decide)) lay_159 kw_2_213 dX7_read_43 rfl hv89 ?_
        refine g_aload_n (n := 47) X 0 dX7_read_46 rfl rfl rfl ?_
        refine gg_7_1 (n := 50) (z := v3) X (by decide) (gsz hsz (by decide)) lay_159 kw_2_212 dX7_read_47 rfl ((gFr.at FM86 rc_159_1.2.2 rfl).trans ((gFr.at FM9 rc_159_1.2.2 rfl).trans ((congrFun (congrFun e7 _) _).trans ((gset_ne (by omega)).trans ((congrFun (congrFun e5 _) _).trans (gset_eq _ _ _ _)))))) ?_
        refine g_icmp_ne (n := 53) (tgt := 55) X dX7_read_50 (by decide) (by omega) (by omega) rfl (fun c90 => ?_) (fun c90 => ?_)
        · refine g_iload_n (n := 56) X 2 dX7_read_55 rfl rfl rfl ?_
          refine g_bipush (n := 58) X dX7_read_56 (by decide +kernel) rfl ?_
          refine g_icmp_eq (n := 61) (tgt := 70) X dX7_read_58 (by decide) (by omega) (by omega) rfl (fun c91 => ?_) (fun c91 => ?_)
          · refine g_aload_n (n := 71) X 0 dX7_read_70 rfl rfl rfl ?_
            refine gg_7_2 (n := 74) (z := v89) X (by decide) (gsz hsz (by decide)) lay_159 kw_2_213 dX7_read_71 rfl hv89 ?_
            exact hq _ _ _ _ dX7_read_74 ⟨by omega, IM86, CM86, (gFr.c (gFr.c (gFr.s (gFr.s (gFr.s gFr.rf e2 rc_159_0.2.2 rfl) e5 rc_159_1.2.2 rfl) e7 rc_159_2.2.2 rfl) FM9 rfl) FM86 rfl)⟩
          · refine g_aload_n (n := 62) X 0 dX7_read_61 rfl rfl rfl ?_
            refine g_bipush (n := 64) X dX7_read_62 (by decide +kernel) rfl ?_
            refine g_callVi (n := 67) (As := [gJ 59]) (rest := []) (cs1 := 0) (ss1 := 0) X (s_X7_skip 59 (by omega) oa r_oa hsz IM86 CM86 ((gFr.at FM86 rc_159_0.2.2 rfl).trans ((gFr.at FM9 rc_159_0.2.2 rfl).trans ((congrFun (congrFun e7 _) _).trans ((gset_ne (by omega)).trans ((congrFun (congrFun e5 _) _).trans ((gset_ne (by omega)).trans ((congrFun (congrFun e2 _) _).trans (gset_eq _ _ _ _))))))))) okX7_skip kw_4_44 ⟨kw_4_46, kw_0_9⟩ ⟨rfl, rfl⟩ ⟨Nat.le_of_ble_eq_true rfl, Nat.le_of_ble_eq_true rfl⟩ rfl (by decide) (gsz hsz (by decide)) lay_159 rfl rfl (Nat.le_of_ble_eq_true rfl) ⟨Nat.le_of_ble_eq_true rfl, Nat.le_of_ble_eq_true rfl⟩ rfl rfl dX7_read_64 rfl (fun v92 M93 P94 => ?_)
            obtain ⟨rv92, IM93, CM93, FM93⟩ := P94
            refine g_if_ne (n := 70) (tgt := 75) X dX7_read_67 (by decide) (by omega) rfl (fun c95 => ?_) (fun c95 => ?_)
            · refine g_iinc (n := 78) (w := v8 + 1) (L' := [(2, gJ (v8 + 1)), (0, gA n0 159), (1, gA n0 oa)]) X 2 dX7_read_75 rfl rfl (by decide) rfl rfl ?_
              refine g_goto (tgt := 23) X dX7_read_78 (by decide) ?_
              refine G.sub (L' := [(0, gA n0 159), (1, gA n0 oa), (2, gJ (v8 + 1))]) [1, 2, 0] rfl ?_
              exact ih82 (v8 + 1) M93 (by omega) IM93 CM93 (gFr.c (gFr.c (gFr.c gFr.rf FM9 rfl) FM86 rfl) FM93 rfl) (by omega)
            · refine g_aload_n (n := 71) X 0 dX7_read_70 rfl rfl rfl ?_
              obtain ⟨v96, hv96, rv96⟩ := gRd IM93 (by decide) (gsz hsz (by decide)) rc_159_2.1
              refine gg_7_2 (n := 74) (z := v96) X (by decide) (gsz hsz (by decide)) lay_159 kw_2_213 dX7_read_71 rfl hv96 ?_
              exact hq _ _ _ _ dX7_read_74 ⟨by omega, IM93, CM93, (gFr.c (gFr.c (gFr.c (gFr.s (gFr.s (gFr.s gFr.rf e2 rc_159_0.2.2 rfl) e5 rc_159_1.2.2 rfl) e7 rc_159_2.2.2 rfl) FM9 rfl) FM86 rfl) FM93 rfl)⟩
        · refine g_iconst (n := 54) X dX7_read_53 rfl ?_
          exact hq _ _ _ _ dX7_read_54 ⟨by omega, IM86, CM86, (gFr.c (gFr.c (gFr.s (gFr.s (gFr.s gFr.rf e2 rc_159_0.2.2 rfl) e5 rc_159_1.2.2 rfl) e7 rc_159_2.2.2 rfl) FM9 rfl) FM86 rfl)⟩
      · refine g_aload_n (n := 38) X 0 dX7_read_37 rfl rfl rfl ?_
        obtain ⟨v97, hv97, rv97⟩ := gRd IM86 (by decide) (gsz hsz (by decide)) rc_159_2.1
        refine gg_7_2 (n := 41) (z := v97) X (by decide) (gsz hsz (by decide)) lay_159 kw_2_213 dX7_read_38 rfl hv97 ?_
        exact hq _ _ _ _ dX7_read_41 ⟨by omega, IM86, CM86, (gFr.c (gFr.c (gFr.s (gFr.s (gFr.s gFr.rf e2 rc_159_0.2.2 rfl) e5 rc_159_1.2.2 rfl) e7 rc_159_2.2.2 rfl) FM9 rfl) FM86 rfl)⟩
  refine G.sub (L' := [(0, gA n0 159), (1, gA n0 oa), (2, gJ 0)]) [1, 2, 0] rfl ?_
  exact j10 _ 0 M6 (by omega) IM6 CM6 gFr.rf (Nat.lt_succ_self _)
