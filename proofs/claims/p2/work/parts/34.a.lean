theorem dX0_addClause_0 : decode cX0_addClause 0 = .ok (.aload_n 0, 1) := by decide +kernel
theorem dX0_addClause_1 : decode cX0_addClause 1 = .ok (.getfield 41, 3) := by decide +kernel
theorem kw_2_85 : (Jvm.Cond.fieldLink "ParishUnion$Act" (41 : Nat) "ParishUnion$Act" "clauses" "I") ∈ gT := gT_of (tb_2 _ (List.mem_of_getElem? (i := 85) rfl)) rfl
theorem dX0_addClause_4 : decode cX0_addClause 4 = .ok (.bipush 8, 2) := by decide +kernel
theorem dX0_addClause_6 : decode cX0_addClause 6 = .ok (.if_icmp .lt 4, 3) := by decide +kernel
theorem dX0_addClause_10 : decode cX0_addClause 10 = .ok (.aload_n 0, 1) := by decide +kernel
theorem dX0_addClause_11 : decode cX0_addClause 11 = .ok (.getfield 19, 3) := by decide +kernel
theorem kw_2_75 : (Jvm.Cond.fieldLink "ParishUnion$Act" (19 : Nat) "ParishUnion$Act" "word" "[I") ∈ gT := gT_of (tb_2 _ (List.mem_of_getElem? (i := 75) rfl)) rfl
theorem dX0_addClause_14 : decode cX0_addClause 14 = .ok (.aload_n 0, 1) := by decide +kernel
theorem dX0_addClause_15 : decode cX0_addClause 15 = .ok (.getfield 41, 3) := by decide +kernel
theorem dX0_addClause_18 : decode cX0_addClause 18 = .ok (.iload_n 1, 1) := by decide +kernel
theorem dX0_addClause_19 : decode cX0_addClause 19 = .ok (.iastore, 1) := by decide +kernel
theorem dX0_addClause_20 : decode cX0_addClause 20 = .ok (.aload_n 0, 1) := by decide +kernel
theorem dX0_addClause_21 : decode cX0_addClause 21 = .ok (.getfield 22, 3) := by decide +kernel
theorem kw_2_77 : (Jvm.Cond.fieldLink "ParishUnion$Act" (22 : Nat) "ParishUnion$Act" "n" "[I") ∈ gT := gT_of (tb_2 _ (List.mem_of_getElem? (i := 77) rfl)) rfl
theorem dX0_addClause_24 : decode cX0_addClause 24 = .ok (.aload_n 0, 1) := by decide +kernel
theorem dX0_addClause_25 : decode cX0_addClause 25 = .ok (.getfield 41, 3) := by decide +kernel
theorem dX0_addClause_28 : decode cX0_addClause 28 = .ok (.iload_n 2, 1) := by decide +kernel
theorem dX0_addClause_29 : decode cX0_addClause 29 = .ok (.iastore, 1) := by decide +kernel
theorem dX0_addClause_30 : decode cX0_addClause 30 = .ok (.aload_n 0, 1) := by decide +kernel
theorem dX0_addClause_31 : decode cX0_addClause 31 = .ok (.getfield 25, 3) := by decide +kernel
theorem kw_2_79 : (Jvm.Cond.fieldLink "ParishUnion$Act" (25 : Nat) "ParishUnion$Act" "place" "[I") ∈ gT := gT_of (tb_2 _ (List.mem_of_getElem? (i := 79) rfl)) rfl
theorem dX0_addClause_34 : decode cX0_addClause 34 = .ok (.aload_n 0, 1) := by decide +kernel
theorem dX0_addClause_35 : decode cX0_addClause 35 = .ok (.getfield 41, 3) := by decide +kernel
theorem dX0_addClause_38 : decode cX0_addClause 38 = .ok (.iload_n 3, 1) := by decide +kernel
theorem dX0_addClause_39 : decode cX0_addClause 39 = .ok (.iastore, 1) := by decide +kernel
theorem dX0_addClause_40 : decode cX0_addClause 40 = .ok (.aload_n 0, 1) := by decide +kernel
theorem dX0_addClause_41 : decode cX0_addClause 41 = .ok (.dup, 1) := by decide +kernel
theorem dX0_addClause_42 : decode cX0_addClause 42 = .ok (.getfield 41, 3) := by decide +kernel
theorem dX0_addClause_45 : decode cX0_addClause 45 = .ok (.iconst 1, 1) := by decide +kernel
theorem dX0_addClause_46 : decode cX0_addClause 46 = .ok (.iadd, 1) := by decide +kernel
theorem dX0_addClause_47 : decode cX0_addClause 47 = .ok (.putfield 41, 3) := by decide +kernel
theorem dX0_addClause_50 : decode cX0_addClause 50 = .ok (.iload_n 1, 1) := by decide +kernel
theorem dX0_addClause_51 : decode cX0_addClause 51 = .ok (.bipush 8, 2) := by decide +kernel
theorem dX0_addClause_53 : decode cX0_addClause 53 = .ok (.if_icmp .eq 9, 3) := by decide +kernel
theorem dX0_addClause_62 : decode cX0_addClause 62 = .ok (.aload_n 0, 1) := by decide +kernel
theorem dX0_addClause_63 : decode cX0_addClause 63 = .ok (.getfield 15, 3) := by decide +kernel
theorem kw_2_73 : (Jvm.Cond.fieldLink "ParishUnion$Act" (15 : Nat) "ParishUnion$Act" "says" "[I") ∈ gT := gT_of (tb_2 _ (List.mem_of_getElem? (i := 73) rfl)) rfl
theorem dX0_addClause_66 : decode cX0_addClause 66 = .ok (.iload_n 1, 1) := by decide +kernel
theorem dX0_addClause_67 : decode cX0_addClause 67 = .ok (.iconst 0, 1) := by decide +kernel
theorem dX0_addClause_68 : decode cX0_addClause 68 = .ok (.aload_n 0, 1) := by decide +kernel
theorem dX0_addClause_69 : decode cX0_addClause 69 = .ok (.getfield 15, 3) := by decide +kernel
theorem dX0_addClause_72 : decode cX0_addClause 72 = .ok (.iload_n 1, 1) := by decide +kernel
theorem dX0_addClause_73 : decode cX0_addClause 73 = .ok (.iaload, 1) := by decide +kernel
theorem dX0_addClause_74 : decode cX0_addClause 74 = .ok (.invokestatic 48, 3) := by decide +kernel
theorem kw_4_67 : (Jvm.Cond.methodLink "ParishUnion$Act" (48 : Nat) ({ cls := "java/lang/Math", name := "max", desc := "(II)I" } : Jvm.MethodName)) ∈ gT := gT_of (tb_4 _ (List.mem_of_getElem? (i := 67) rfl)) rfl
theorem dX0_addClause_77 : decode cX0_addClause 77 = .ok (.iconst 1, 1) := by decide +kernel
theorem dX0_addClause_78 : decode cX0_addClause 78 = .ok (.iadd, 1) := by decide +kernel
theorem dX0_addClause_79 : decode cX0_addClause 79 = .ok (.iastore, 1) := by decide +kernel
theorem dX0_addClause_80 : decode cX0_addClause 80 = .ok (.goto 10, 3) := by decide +kernel
theorem dX0_addClause_90 : decode cX0_addClause 90 = .ok (.return_, 1) := by decide +kernel
theorem dX0_addClause_56 : decode cX0_addClause 56 = .ok (.iload_n 1, 1) := by decide +kernel
theorem dX0_addClause_57 : decode cX0_addClause 57 = .ok (.bipush 9, 2) := by decide +kernel
theorem dX0_addClause_59 : decode cX0_addClause 59 = .ok (.if_icmp .ne 24, 3) := by decide +kernel
theorem dX0_addClause_83 : decode cX0_addClause 83 = .ok (.aload_n 0, 1) := by decide +kernel
theorem dX0_addClause_84 : decode cX0_addClause 84 = .ok (.getfield 15, 3) := by decide +kernel
theorem dX0_addClause_87 : decode cX0_addClause 87 = .ok (.iload_n 1, 1) := by decide +kernel
theorem dX0_addClause_88 : decode cX0_addClause 88 = .ok (.iload_n 2, 1) := by decide +kernel
theorem dX0_addClause_89 : decode cX0_addClause 89 = .ok (.iastore, 1) := by decide +kernel
theorem dX0_addClause_9 : decode cX0_addClause 9 = .ok (.return_, 1) := by decide +kernel
abbrev R_X0_addClause : Room := { frames := 4, cells := 0, slots := 0, locals := 120 }
set_option maxRecDepth 100000 in
set_option maxHeartbeats 4000000 in
theorem s_X0_addClause {l : Launch} {n0 : Nat} {D : va_G} {cA : Nat → ClassId} {M : gM} (o : Int) (r_o : 87 ≤ o ∧ o ≤ 147 ∧ (o - 87) % 6 = 0) (a : Int) (r_a : 0 ≤ a ∧ a ≤ 9) (b : Int) (r_b : -2147483648 ≤ b ∧ b ≤ 2147483647) (c : Int) (r_c : 0 ≤ c ∧ c ≤ 150) {sz : Nat} (hsz : 206 ≤ sz) (I : gI sz M) (C : gC sz M) (hw : a = 9 → 0 ≤ b ∧ b ≤ 3)  : Met l yX0_addClause (gWsOf yX0_addClause cX0_addClause 4 (Option.none : Option Jvm.ClassFile.FieldType)) R_X0_addClause (gPc n0 D cA [gA n0 o, gJ a, gJ b, gJ c] M sz) (gQv n0 D cA sz (fun M1 => gI sz M1 ∧ gC sz M1 ∧ gFr 256 M M1)) 0 0 (fun q => n0 ≤ q) := by
  refine gMetV [gA n0 o, gJ a, gJ b, gJ c] (by decide) (Nat.le_of_ble_eq_true rfl) ⟨rfl, rfl⟩ ?_
  intro p e s m args below meth cd Q X hq
  have X : gCx p s m args meth cd n0 D cA "ParishUnion$Act" cX0_addClause 4 := X
  show G p l e R_X0_addClause s m args below meth cd n0 D cA 4 Q 0 0 M sz 0 [(0, gA n0 o), (1, gJ a), (2, gJ b), (3, gJ c)] []
  refine g_aload_n (n := 1) X 0 dX0_addClause_0 rfl rfl rfl ?_
  obtain ⟨v1, hv1, rv1⟩ := gRd I (Ao0 r_o) (Aosz hsz r_o) (rA_7 r_o).1
  refine gg_0_7 (n := 4) (z := v1) X (Ao0 r_o) (Aosz hsz r_o) (lay2_A r_o) kw_2_85 dX0_addClause_1 rfl hv1 ?_
  refine g_bipush (n := 6) X dX0_addClause_4 (by decide +kernel) rfl ?_
  refine g_icmp_lt (n := 9) (tgt := 10) X dX0_addClause_6 (by decide) (by omega) (by omega) rfl (fun c2 => ?_) (fun c2 => ?_)
  · refine g_aload_n (n := 11) X 0 dX0_addClause_10 rfl rfl rfl ?_
    refine gg_0_2 (n := 14) (z := o + 3) X (Ao0 r_o) (Aosz hsz r_o) (lay2_A r_o) kw_2_75 dX0_addClause_11 rfl (rfA_2 I hsz r_o) (by omega) ?_
    refine g_aload_n (n := 15) X 0 dX0_addClause_14 rfl rfl rfl ?_
    refine gg_0_7 (n := 18) (z := v1) X (Ao0 r_o) (Aosz hsz r_o) (lay2_A r_o) kw_2_85 dX0_addClause_15 rfl hv1 ?_
    refine g_iload_n (n := 19) X 1 dX0_addClause_18 rfl rfl rfl ?_
    refine g_iast (n := 20) X (A3o0 r_o) (A3osz hsz r_o) (lay2_A3 r_o) (by omega) (by omega) (by decide) dX0_addClause_19 rfl ?_
    refine G.nm (fun M3 e4 => ?_)
    have IM3 : gI sz M3 := gI.set I (rAA_3 r_o v1).1 (by omega) e4
    refine g_aload_n (n := 21) X 0 dX0_addClause_20 rfl rfl rfl ?_
    refine gg_0_3 (n := 24) (z := o + 4) X (Ao0 r_o) (Aosz hsz r_o) (lay2_A r_o) kw_2_77 dX0_addClause_21 rfl (rfA_3 IM3 hsz r_o) (by omega) ?_
    refine g_aload_n (n := 25) X 0 dX0_addClause_24 rfl rfl rfl ?_
    refine gg_0_7 (n := 28) (z := v1) X (Ao0 r_o) (Aosz hsz r_o) (lay2_A r_o) kw_2_85 dX0_addClause_25 rfl ((congrFun (congrFun e4 _) _).trans ((gset_ne (by omega)).trans hv1)) ?_
    refine g_iload_n (n := 29) X 2 dX0_addClause_28 rfl rfl rfl ?_
    refine g_iast (n := 30) X (A4o0 r_o) (A4osz hsz r_o) (lay2_A4 r_o) (by omega) (by omega) (by decide) dX0_addClause_29 rfl ?_
    refine G.nm (fun M5 e6 => ?_)
    have IM5 : gI sz M5 := gI.set IM3 (rAA_4 r_o v1).1 (by omega) e6
    have CM5 : gC sz M5 := gC.act C r_o e4 e6 (by omega)
    refine g_aload_n (n := 31) X 0 dX0_addClause_30 rfl rfl rfl ?_
    refine gg_0_4 (n := 34) (z := o + 5) X (Ao0 r_o) (Aosz hsz r_o) (lay2_A r_o) kw_2_79 dX0_addClause_31 rfl (rfA_4 IM5 hsz r_o) (by omega) ?_
    refine g_aload_n (n := 35) X 0 dX0_addClause_34 rfl rfl rfl ?_
    refine gg_0_7 (n := 38) (z := v1) X (Ao0 r_o) (Aosz hsz r_o) (lay2_A r_o) kw_2_85 dX0_addClause_35 rfl ((congrFun (congrFun e6 _) _).trans ((gset_ne (by omega)).trans ((congrFun (congrFun e4 _) _).trans ((gset_ne (by omega)).trans hv1)))) ?_
    refine g_iload_n (n := 39) X 3 dX0_addClause_38 rfl rfl rfl ?_
    refine g_iast (n := 40) X (A5o0 r_o) (A5osz hsz r_o) (lay2_A5 r_o) (by omega) (by omega) (by decide) dX0_addClause_39 rfl ?_
    refine G.nm (fun M7 e8 => ?_)
    have IM7 : gI sz M7 := gI.set IM5 (rAA_5 r_o v1).1 (by omega) e8
    have CM7 : gC sz M7 := gC.set CM5 (rAA_5 r_o v1).2.1 e8
    refine g_aload_n (n := 41) X 0 dX0_addClause_40 rfl rfl rfl ?_
    refine g_dup (n := 42) X dX0_addClause_41 rfl rfl ?_
    refine gg_0_7 (n := 45) (z := v1) X (Ao0 r_o) (Aosz hsz r_o) (lay2_A r_o) kw_2_85 dX0_addClause_42 rfl ((congrFun (congrFun e8 _) _).trans ((gset_ne (by omega)).trans ((congrFun (congrFun e6 _) _).trans ((gset_ne (by omega)).trans ((congrFun (congrFun e4 _) _).trans ((gset_ne (by omega)).trans hv1)))))) ?_
    refine g_iconst (n := 46) X dX0_addClause_45 rfl ?_
    refine g_iadd (n := 47) (z := v1 + 1) X dX0_addClause_46 (by omega) rfl ?_
    refine gp_0_7 (n := 50) X (Ao0 r_o) (Aosz hsz r_o) (lay2_A r_o) kw_2_85 dX0_addClause_47 rfl ?_
    refine G.nm (fun M9 e10 => ?_)
    have IM9 : gI sz M9 := gI.set IM7 (rA_7 r_o).1 (by omega) e10
    have CM9 : gC sz M9 := gC.set CM7 (rA_7 r_o).2.1 e10
    refine g_iload_n (n := 51) X 1 dX0_addClause_50 rfl rfl rfl ?_
    refine g_bipush (n := 53) X dX0_addClause_51 (by decide +kernel) rfl ?_
    refine g_icmp_eq (n := 56) (tgt := 62) X dX0_addClause_53 (by decide) (by omega) (by omega) rfl (fun c11 => ?_) (fun c11 => ?_)
    · refine g_aload_n (n := 63) X 0 dX0_addClause_62 rfl rfl rfl ?_
      refine gg_0_1 (n := 66) (z := o + 2) X (Ao0 r_o) (Aosz hsz r_o) (lay2_A r_o) kw_2_73 dX0_addClause_63 rfl (rfA_1 IM9 hsz r_o) (by omega) ?_
      refine g_iload_n (n := 67) X 1 dX0_addClause_66 rfl rfl rfl ?_
      refine g_iconst (n := 68) X dX0_addClause_67 rfl ?_
      refine g_aload_n (n := 69) X 0 dX0_addClause_68 rfl rfl rfl ?_
      refine gg_0_1 (n := 72) (z := o + 2) X (Ao0 r_o) (Aosz hsz r_o) (lay2_A r_o) kw_2_73 dX0_addClause_69 rfl (rfA_1 IM9 hsz r_o) (by omega) ?_
      refine g_iload_n (n := 73) X 1 dX0_addClause_72 rfl rfl rfl ?_
      obtain ⟨v12, hv12, rv12⟩ := gRd IM9 (A2o0 r_o) (A2osz hsz r_o) (rAA_2 r_o a).1
      refine g_iald2 (n := 74) (v := v12) X (A2o0 r_o) (A2osz hsz r_o) (lay2_A2 r_o) (by omega) (by omega) (by decide) dX0_addClause_73 rfl hv12 ?_
      refine g_mmax (n := 77) X kw_4_67 kw_3_153 kw_1_14 kw_3_154 (by omega) (by omega) (Nat.le_of_ble_eq_true rfl) (Nat.le_of_ble_eq_true rfl) (Nat.le_of_ble_eq_true rfl) (Nat.le_of_ble_eq_true rfl) dX0_addClause_74 rfl (fun x13 hx13 => ?_)
      have rx13 : 0 ≤ x13 ∧ x13 ≤ 2147483647 := by omega
      refine g_iconst (n := 78) X dX0_addClause_77 rfl ?_
      refine g_iaddA (n := 79) X dX0_addClause_78 rfl (fun v14 rv14 xv14 => ?_)
      clear xv14
      refine g_iast (n := 80) X (A2o0 r_o) (A2osz hsz r_o) (lay2_A2 r_o) (by omega) (by omega) (by decide) dX0_addClause_79 rfl ?_
      refine G.nm (fun M15 e16 => ?_)
      have IM15 : gI sz M15 := gI.set IM9 (rAA_2 r_o a).1 (by omega) e16
      have CM15 : gC sz M15 := gC.set CM9 (rAA_2 r_o a).2.1 e16
      refine g_goto (tgt := 90) X dX0_addClause_80 (by decide) ?_
      exact hq _ _ _ dX0_addClause_90 ⟨IM15, CM15, (gFr.s (gFr.s (gFr.s (gFr.s (gFr.s gFr.rf e4 (rAA_3 r_o v1).2.2 rfl) e6 (rAA_4 r_o v1).2.2 rfl) e8 (rAA_5 r_o v1).2.2 rfl) e10 (rA_7 r_o).2.2 rfl) e16 (rAA_2 r_o a).2.2 rfl)⟩
    · refine g_iload_n (n := 57) X 1 dX0_addClause_56 rfl rfl rfl ?_
      refine g_bipush (n := 59) X dX0_addClause_57 (by decide +kernel) rfl ?_
      refine g_icmp_ne (n := 62) (tgt := 83) X dX0_addClause_59 (by decide) (by omega) (by omega) rfl (fun c17 => ?_) (fun c17 => ?_)
      · refine g_aload_n (n := 84) X 0 dX0_addClause_83 rfl rfl rfl ?_
        refine gg_0_1 (n := 87) (z := o + 2) X (Ao0 r_o) (Aosz hsz r_o) (lay2_A r_o) kw_2_73 dX0_addClause_84 rfl (rfA_1 IM9 hsz r_o) (by omega) ?_
        refine g_iload_n (n := 88) X 1 dX0_addClause_87 rfl rfl rfl ?_
        refine g_iload_n (n := 89) X 2 dX0_addClause_88 rfl rfl rfl ?_
        refine g_iast (n := 90) X (A2o0 r_o) (A2osz hsz r_o) (lay2_A2 r_o) (by omega) (by omega) (by decide) dX0_addClause_89 rfl ?_
        refine G.nm (fun M18 e19 => ?_)
        have IM18 : gI sz M18 := gI.set IM9 (rAA_2 r_o a).1 (by omega) e19
        have CM18 : gC sz M18 := gC.set CM9 (rAA_2 r_o a).2.1 e19
        exact hq _ _ _ dX0_addClause_90 ⟨IM18, CM18, (gFr.s (gFr.s (gFr.s (gFr.s (gFr.s gFr.rf e4 (rAA_3 r_o v1).2.2 rfl) e6 (rAA_4 r_o v1).2.2 rfl) e8 (rAA_5 r_o v1).2.2 rfl) e10 (rA_7 r_o).2.2 rfl) e19 (rAA_2 r_o a).2.2 rfl)⟩
      · refine g_aload_n (n := 63) X 0 dX0_addClause_62 rfl rfl rfl ?_
        refine gg_0_1 (n := 66) (z := o + 2) X (Ao0 r_o) (Aosz hsz r_o) (lay2_A r_o) kw_2_73 dX0_addClause_63 rfl (rfA_1 IM9 hsz r_o) (by omega) ?_
        refine g_iload_n (n := 67) X 1 dX0_addClause_66 rfl rfl rfl ?_
        refine g_iconst (n := 68) X dX0_addClause_67 rfl ?_
        refine g_aload_n (n := 69) X 0 dX0_addClause_68 rfl rfl rfl ?_
        refine gg_0_1 (n := 72) (z := o + 2) X (Ao0 r_o) (Aosz hsz r_o) (lay2_A r_o) kw_2_73 dX0_addClause_69 rfl (rfA_1 IM9 hsz r_o) (by omega) ?_
        refine g_iload_n (n := 73) X 1 dX0_addClause_72 rfl rfl rfl ?_
        obtain ⟨v20, hv20, rv20⟩ := gRd IM9 (A2o0 r_o) (A2osz hsz r_o) (rAA_2 r_o a).1
        refine g_iald2 (n := 74) (v := v20) X (A2o0 r_o) (A2osz hsz r_o) (lay2_A2 r_o) (by omega) (by omega) (by decide) dX0_addClause_73 rfl hv20 ?_
        refine g_mmax (n := 77) X kw_4_67 kw_3_153 kw_1_14 kw_3_154 (by omega) (by omega) (Nat.le_of_ble_eq_true rfl) (Nat.le_of_ble_eq_true rfl) (Nat.le_of_ble_eq_true rfl) (Nat.le_of_ble_eq_true rfl) dX0_addClause_74 rfl (fun x21 hx21 => ?_)
        have rx21 : 0 ≤ x21 ∧ x21 ≤ 2147483647 := by omega
        refine g_iconst (n := 78) X dX0_addClause_77 rfl ?_
        refine g_iaddA (n := 79) X dX0_addClause_78 rfl (fun v22 rv22 xv22 => ?_)
        clear xv22
        refine g_iast (n := 80) X (A2o0 r_o) (A2osz hsz r_o) (lay2_A2 r_o) (by omega) (by omega) (by decide) dX0_addClause_79 rfl ?_
        refine G.nm (fun M23 e24 => ?_)
        have IM23 : gI sz M23 := gI.set IM9 (rAA_2 r_o a).1 (by omega) e24
        have CM23 : gC sz M23 := gC.set CM9 (rAA_2 r_o a).2.1 e24
        refine g_goto (tgt := 90) X dX0_addClause_80 (by decide) ?_
        exact hq _ _ _ dX0_addClause_90 ⟨IM23, CM23, (gFr.s (gFr.s (gFr.s (gFr.s (gFr.s gFr.rf e4 (rAA_3 r_o v1).2.2 rfl) e6 (rAA_4 r_o v1).2.2 rfl) e8 (rAA_5 r_o v1).2.2 rfl) e10 (rA_7 r_o).2.2 rfl) e24 (rAA_2 r_o a).2.2 rfl)⟩
  · exact hq _ _ _ dX0_addClause_9 ⟨I, C, gFr.rf⟩
theorem dX0_begin_0 : decode cX0_begin 0 = .ok (.aload_n 1, 1) := by decide +kernel
theorem dX0_begin_1 : decode cX0_begin 1 = .ok (.iconst 0, 1) := by decide +kernel
theorem dX0_begin_2 : decode cX0_begin 2 = .ok (.aload_n 0, 1) := by decide +kernel
theorem dX0_begin_3 : decode cX0_begin 3 = .ok (.getfield 9, 3) := by decide +kernel
theorem dX0_begin_6 : decode cX0_begin 6 = .ok (.iconst 0, 1) := by decide +kernel
theorem dX0_begin_7 : decode cX0_begin 7 = .ok (.iload_n 2, 1) := by decide +kernel
theorem dX0_begin_8 : decode cX0_begin 8 = .ok (.invokestatic 28, 3) := by decide +kernel
theorem kw_3_207 : (Jvm.Cond.methodLink "ParishUnion$Act" (28 : Nat) ({ cls := "java/lang/System", name := "arraycopy", desc := "(Ljava/lang/Object;ILjava/lang/Object;II)V" } : Jvm.MethodName)) ∈ gT := gT_of (tb_3 _ (List.mem_of_getElem? (i := 207) rfl)) rfl
theorem kw_3_209 : (Jvm.Cond.native ({ cls := "java/lang/System", name := "arraycopy", desc := "(Ljava/lang/Object;ILjava/lang/Object;II)V" } : Jvm.MethodName)) ∈ gT := gT_of (tb_3 _ (List.mem_of_getElem? (i := 209) rfl)) rfl
theorem kw_3_208 : (Jvm.Cond.static ({ cls := "java/lang/System", name := "arraycopy", desc := "(Ljava/lang/Object;ILjava/lang/Object;II)V" } : Jvm.MethodName)) ∈ gT := gT_of (tb_3 _ (List.mem_of_getElem? (i := 208) rfl)) rfl
theorem kw_1_16 : (Jvm.Cond.initialized "java/lang/System") ∈ gT := gT_of (tb_1 _ (List.mem_of_getElem? (i := 16) rfl)) rfl
theorem dX0_begin_11 : decode cX0_begin 11 = .ok (.aload_n 0, 1) := by decide +kernel
theorem dX0_begin_12 : decode cX0_begin 12 = .ok (.iload_n 2, 1) := by decide +kernel
theorem dX0_begin_13 : decode cX0_begin 13 = .ok (.putfield 34, 3) := by decide +kernel
theorem dX0_begin_16 : decode cX0_begin 16 = .ok (.aload_n 0, 1) := by decide +kernel
theorem dX0_begin_17 : decode cX0_begin 17 = .ok (.iload_n 3, 1) := by decide +kernel
theorem dX0_begin_18 : decode cX0_begin 18 = .ok (.putfield 38, 3) := by decide +kernel
theorem kw_2_83 : (Jvm.Cond.fieldLink "ParishUnion$Act" (38 : Nat) "ParishUnion$Act" "week" "I") ∈ gT := gT_of (tb_2 _ (List.mem_of_getElem? (i := 83) rfl)) rfl
theorem dX0_begin_21 : decode cX0_begin 21 = .ok (.aload_n 0, 1) := by decide +kernel
theorem dX0_begin_22 : decode cX0_begin 22 = .ok (.iconst 0, 1) := by decide +kernel
theorem dX0_begin_23 : decode cX0_begin 23 = .ok (.putfield 41, 3) := by decide +kernel
theorem dX0_begin_26 : decode cX0_begin 26 = .ok (.iconst 0, 1) := by decide +kernel
theorem dX0_begin_27 : decode cX0_begin 27 = .ok (.istore 4, 2) := by decide +kernel
theorem dX0_begin_29 : decode cX0_begin 29 = .ok (.iload 4, 2) := by decide +kernel
theorem dX0_begin_31 : decode cX0_begin 31 = .ok (.bipush 10, 2) := by decide +kernel
theorem dX0_begin_33 : decode cX0_begin 33 = .ok (.if_icmp .ge 17, 3) := by decide +kernel
theorem dX0_begin_36 : decode cX0_begin 36 = .ok (.aload_n 0, 1) := by decide +kernel
theorem dX0_begin_37 : decode cX0_begin 37 = .ok (.getfield 15, 3) := by decide +kernel
theorem dX0_begin_40 : decode cX0_begin 40 = .ok (.iload 4, 2) := by decide +kernel
theorem dX0_begin_42 : decode cX0_begin 42 = .ok (.iconst (-1), 1) := by decide +kernel
theorem dX0_begin_43 : decode cX0_begin 43 = .ok (.iastore, 1) := by decide +kernel
theorem dX0_begin_44 : decode cX0_begin 44 = .ok (.iinc 4 1, 3) := by decide +kernel
theorem dX0_begin_47 : decode cX0_begin 47 = .ok (.goto (-18), 3) := by decide +kernel
theorem dX0_begin_50 : decode cX0_begin 50 = .ok (.return_, 1) := by decide +kernel
abbrev R_X0_begin : Room := { frames := 4, cells := 0, slots := 0, locals := 120 }
set_option maxRecDepth 100000 in
set_option maxHeartbeats 4000000 in
theorem s_X0_begin {l : Launch} {n0 : Nat} {D : va_G} {cA : Nat → ClassId} {M : gM} (o : Int) (r_o : 87 ≤ o ∧ o ≤ 147 ∧ (o - 87) % 6 = 0) (b : Int) (r_b : 0 ≤ b ∧ b ≤ 150) (c : Int) (r_c : 0 ≤ c ∧ c ≤ 300) {sz : Nat} (hsz : 206 ≤ sz) (I : gI sz M) (C : gC sz M)   : Met l yX0_begin (gWsOf yX0_begin cX0_begin 5 (Option.none : Option Jvm.ClassFile.FieldType)) R_X0_begin (gPc n0 D cA [gA n0 o, gA n0 8, gJ b, gJ c] M sz) (gQv n0 D cA sz (fun M1 => gI sz M1 ∧ gC sz M1 ∧ gFr 256 M M1)) 0 0 (fun q => n0 ≤ q) := by
  refine gMetV [gA n0 o, gA n0 8, gJ b, gJ c] (by decide) (Nat.le_of_ble_eq_true rfl) ⟨rfl, rfl⟩ ?_
  intro p e s m args below meth cd Q X hq
  have X : gCx p s m args meth cd n0 D cA "ParishUnion$Act" cX0_begin 5 := X
  show G p l e R_X0_begin s m args below meth cd n0 D cA 5 Q 0 0 M sz 0 [(0, gA n0 o), (1, gA n0 8), (2, gJ b), (3, gJ c)] []
  refine g_aload_n (n := 1) X 1 dX0_begin_0 rfl rfl rfl ?_
  refine g_iconst (n := 2) X dX0_begin_1 rfl ?_
  refine g_aload_n (n := 3) X 0 dX0_begin_2 rfl rfl rfl ?_
  refine gg_0_0 (n := 6) (z := o + 1) X (Ao0 r_o) (Aosz hsz r_o) (lay2_A r_o) kw_2_71 dX0_begin_3 rfl (rfA_0 I hsz r_o) (by omega) ?_
  refine g_iconst (n := 7) X dX0_begin_6 rfl ?_
  refine g_iload_n (n := 8) X 2 dX0_begin_7 rfl rfl rfl ?_
  refine g_acopyB (n := 11) X kw_3_207 kw_3_209 kw_3_208 kw_1_16 (by decide) (gsz hsz (by decide)) lay_8 (A1o0 r_o) (A1osz hsz r_o) (lay2_A1 r_o) (by omega) (by omega) (by omega) (by omega) (gI.bytes I (by decide) (gsz hsz (by decide)) (fun _ => rfl)) (Nat.le_of_ble_eq_true rfl) (Nat.le_of_ble_eq_true rfl) dX0_begin_8 rfl ?_
  refine G.nm (fun M1 e2 => ?_)
  have IM1 : gI sz M1 := gI.cpy I (by decide) (gsz hsz (by decide)) (fun k => ((rAA_1 r_o k).1.trans (ra_8 k).1.symm)) e2
  have CM1 : gC sz M1 := gC.cpy C (fun k => (rAA_1 r_o k).2.1) e2
  refine g_aload_n (n := 12) X 0 dX0_begin_11 rfl rfl rfl ?_
  refine g_iload_n (n := 13) X 2 dX0_begin_12 rfl rfl rfl ?_
  refine gp_0_5 (n := 16) X (Ao0 r_o) (Aosz hsz r_o) (lay2_A r_o) kw_2_82 dX0_begin_13 rfl ?_
  refine G.nm (fun M3 e4 => ?_)
  have IM3 : gI sz M3 := gI.set IM1 (rA_5 r_o).1 (by omega) e4
  have CM3 : gC sz M3 := gC.set CM1 (rA_5 r_o).2.1 e4
  refine g_aload_n (n := 17) X 0 dX0_begin_16 rfl rfl rfl ?_
  refine g_iload_n (n := 18) X 3 dX0_begin_17 rfl rfl rfl ?_
  refine gp_0_6 (n := 21) X (Ao0 r_o) (Aosz hsz r_o) (lay2_A r_o) kw_2_83 dX0_begin_18 rfl ?_
  refine G.nm (fun M5 e6 => ?_)
  have IM5 : gI sz M5 := gI.set IM3 (rA_6 r_o).1 (by omega) e6
  have CM5 : gC sz M5 := gC.set CM3 (rA_6 r_o).2.1 e6
  refine g_aload_n (n := 22) X 0 dX0_begin_21 rfl rfl rfl ?_
  refine g_iconst (n := 23) X dX0_begin_22 rfl ?_
  refine gp_0_7 (n := 26) X (Ao0 r_o) (Aosz hsz r_o) (lay2_A r_o) kw_2_85 dX0_begin_23 rfl ?_
  refine G.nm (fun M7 e8 => ?_)
  have IM7 : gI sz M7 := gI.set IM5 (rA_7 r_o).1 (by omega) e8
  have CM7 : gC sz M7 := gC.set CM5 (rA_7 r_o).2.1 e8
  refine g_iconst (n := 27) X dX0_begin_26 rfl ?_
  refine g_istore (n := 29) (L' := [(4, gJ 0), (0, gA n0 o), (1, gA n0 8), (2, gJ b), (3, gJ c)]) X dX0_begin_27 (by decide) rfl rfl ?_
  have j11 : ∀ (N27 : Nat) (v9 : Int) (M10 : gM) , (0 ≤ v9 ∧ v9 ≤ 10) → gI sz M10 → gC sz M10 → gFr 256 M7 M10 → (10 - v9).toNat < N27 → G p l e R_X0_begin s m args below meth cd n0 D cA 5 Q 0 0 M10 sz 29 [(0, gA n0 o), (4, gJ v9)] [] := by
    intro N27; induction N27 with
    | zero => intro v9 M10 rv9 IM10 CM10 FM10 hm29; exfalso; omega
    | succ N27 ih28 =>
      intro v9 M10 rv9 IM10 CM10 FM10 hm29
      refine g_iload (n := 31) X 1 dX0_begin_29 rfl rfl ?_
      refine g_bipush (n := 33) X dX0_begin_31 (by decide +kernel) rfl ?_
      refine g_icmp_ge (n := 36) (tgt := 50) X dX0_begin_33 (by decide) (by omega) (by omega) rfl (fun c30 => ?_) (fun c30 => ?_)
      · exact hq _ _ _ dX0_begin_50 ⟨IM10, CM10, (gFr.c (gFr.s (gFr.s (gFr.s (gFr.y gFr.rf e2 (fun k => (rAA_1 r_o k).2.2) rfl) e4 (rA_5 r_o).2.2 rfl) e6 (rA_6 r_o).2.2 rfl) e8 (rA_7 r_o).2.2 rfl) FM10 rfl)⟩
      · refine g_aload_n (n := 37) X 0 dX0_begin_36 rfl rfl rfl ?_
        refine gg_0_1 (n := 40) (z := o + 2) X (Ao0 r_o) (Aosz hsz r_o) (lay2_A r_o) kw_2_73 dX0_begin_37 rfl (rfA_1 IM10 hsz r_o) (by omega) ?_
        refine g_iload (n := 42) X 1 dX0_begin_40 rfl rfl ?_
        refine g_iconst (n := 43) X dX0_begin_42 rfl ?_
        refine g_iast (n := 44) X (A2o0 r_o) (A2osz hsz r_o) (lay2_A2 r_o) (by omega) (by omega) (by decide) dX0_begin_43 rfl ?_
        refine G.nm (fun M31 e32 => ?_)
        have IM31 : gI sz M31 := gI.set IM10 (rAA_2 r_o v9).1 (by omega) e32
        have CM31 : gC sz M31 := gC.set CM10 (rAA_2 r_o v9).2.1 e32
        refine g_iinc (n := 47) (w := v9 + 1) (L' := [(4, gJ (v9 + 1)), (0, gA n0 o)]) X 1 dX0_begin_44 rfl rfl (by decide) rfl rfl ?_
        refine g_goto (tgt := 29) X dX0_begin_47 (by decide) ?_
        refine G.sub (L' := [(0, gA n0 o), (4, gJ (v9 + 1))]) [1, 0] rfl ?_
        exact ih28 (v9 + 1) M31 (by omega) IM31 CM31 (gFr.s (gFr.c gFr.rf FM10 rfl) e32 (rAA_2 r_o v9).2.2 rfl) (by omega)
  refine G.sub (L' := [(0, gA n0 o), (4, gJ 0)]) [1, 0] rfl ?_
  exact j11 _ 0 M7 (by omega) IM7 CM7 gFr.rf (Nat.lt_succ_self _)
theorem dX7_skip_0 : decode cX7_skip 0 = .ok (.aload_n 0, 1) := by decide +kernel
theorem dX7_skip_1 : decode cX7_skip 1 = .ok (.getfield 23, 3) := by decide +kernel
theorem kw_2_213 : (Jvm.Cond.fieldLink "ParishUnion$Reader" (23 : Nat) "ParishUnion$Reader" "place" "I") ∈ gT := gT_of (tb_2 _ (List.mem_of_getElem? (i := 213) rfl)) rfl
theorem rc_159_2 : gRg 159 2 = (0, 150) ∧ gCr 159 2 = false ∧ gG 159 2 = 26 := by decide +kernel
theorem dX7_skip_4 : decode cX7_skip 4 = .ok (.aload_n 0, 1) := by decide +kernel
theorem dX7_skip_5 : decode cX7_skip 5 = .ok (.getfield 22, 3) := by decide +kernel
theorem kw_2_212 : (Jvm.Cond.fieldLink "ParishUnion$Reader" (22 : Nat) "ParishUnion$Reader" "size" "I") ∈ gT := gT_of (tb_2 _ (List.mem_of_getElem? (i := 212) rfl)) rfl
theorem rc_159_1 : gRg 159 1 = (0, 150) ∧ gCr 159 1 = false ∧ gG 159 1 = 26 := by decide +kernel
theorem dX7_skip_8 : decode cX7_skip 8 = .ok (.if_icmp .ge 16, 3) := by decide +kernel
theorem dX7_skip_24 : decode cX7_skip 24 = .ok (.iconst 0, 1) := by decide +kernel
theorem dX7_skip_25 : decode cX7_skip 25 = .ok (.ireturn, 1) := by decide +kernel
theorem dX7_skip_11 : decode cX7_skip 11 = .ok (.aload_n 0, 1) := by decide +kernel
theorem dX7_skip_12 : decode cX7_skip 12 = .ok (.getfield 9, 3) := by decide +kernel
theorem kw_2_211 : (Jvm.Cond.fieldLink "ParishUnion$Reader" (9 : Nat) "ParishUnion$Reader" "text" "[B") ∈ gT := gT_of (tb_2 _ (List.mem_of_getElem? (i := 211) rfl)) rfl
theorem dX7_skip_15 : decode cX7_skip 15 = .ok (.aload_n 0, 1) := by decide +kernel
theorem dX7_skip_16 : decode cX7_skip 16 = .ok (.getfield 23, 3) := by decide +kernel
theorem dX7_skip_19 : decode cX7_skip 19 = .ok (.baload, 1) := by decide +kernel
theorem dX7_skip_20 : decode cX7_skip 20 = .ok (.iload_n 1, 1) := by decide +kernel
theorem dX7_skip_21 : decode cX7_skip 21 = .ok (.if_icmp .eq 5, 3) := by decide +kernel
theorem dX7_skip_26 : decode cX7_skip 26 = .ok (.aload_n 0, 1) := by decide +kernel
theorem dX7_skip_27 : decode cX7_skip 27 = .ok (.dup, 1) := by decide +kernel
theorem dX7_skip_28 : decode cX7_skip 28 = .ok (.getfield 23, 3) := by decide +kernel
theorem dX7_skip_31 : decode cX7_skip 31 = .ok (.iconst 1, 1) := by decide +kernel
theorem dX7_skip_32 : decode cX7_skip 32 = .ok (.iadd, 1) := by decide +kernel
theorem dX7_skip_33 : decode cX7_skip 33 = .ok (.putfield 23, 3) := by decide +kernel
theorem dX7_skip_36 : decode cX7_skip 36 = .ok (.iconst 1, 1) := by decide +kernel
theorem dX7_skip_37 : decode cX7_skip 37 = .ok (.ireturn, 1) := by decide +kernel
abbrev R_X7_skip : Room := { frames := 0, cells := 0, slots := 0, locals := 0 }
set_option maxRecDepth 100000 in
set_option maxHeartbeats 4000000 in
theorem s_X7_skip {l : Launch} {n0 : Nat} {D : va_G} {cA : Nat → ClassId} {M : gM} (a : Int) (r_a : 0 ≤ a ∧ a ≤ 65535) (o : Int) (r_o : 87 ≤ o ∧ o ≤ 147 ∧ (o - 87) % 6 = 0) {sz : Nat} (hsz : 206 ≤ sz) (I : gI sz M) (C : gC sz M) (ht : M 159 0 = o + 1 + 1)  : Met l yX7_skip (gWsOf yX7_skip cX7_skip 2 (Option.some Jvm.ClassFile.FieldType.boolean)) R_X7_skip (gPc n0 D cA [gA n0 159, gJ a] M sz) (gQi n0 D cA sz (fun z M1 => (0 ≤ z ∧ z ≤ 1) ∧ gI sz M1 ∧ gC sz M1 ∧ gFr 67108864 M M1)) 0 0 (fun q => n0 ≤ q) := by
  refine gMetZ [gA n0 159, gJ a] (by decide) (Nat.le_of_ble_eq_true rfl) ⟨rfl, rfl⟩ ?_
  intro p e s m args below meth cd Q X hq
  have X : gCx p s m args meth cd n0 D cA "ParishUnion$Reader" cX7_skip 2 := X
  show G p l e R_X7_skip s m args below meth cd n0 D cA 2 Q 0 0 M sz 0 [(0, gA n0 159), (1, gJ a)] []
  refine g_aload_n (n := 1) X 0 dX7_skip_0 rfl rfl rfl ?_
  obtain ⟨v1, hv1, rv1⟩ := gRd I (by decide) (gsz hsz (by decide)) rc_159_2.1
  refine gg_7_2 (n := 4) (z := v1) X (by decide) (gsz hsz (by decide)) lay_159 kw_2_213 dX7_skip_1 rfl hv1 ?_
  refine g_aload_n (n := 5) X 0 dX7_skip_4 rfl rfl rfl ?_
  obtain ⟨v2, hv2, rv2⟩ := gRd I (by decide) (gsz hsz (by decide)) rc_159_1.1
  refine gg_7_1 (n := 8) (z := v2) X (by decide) (gsz hsz (by decide)) lay_159 kw_2_212 dX7_skip_5 rfl hv2 ?_
  refine g_icmp_ge (n := 11) (tgt := 24) X dX7_skip_8 (by decide) (by omega) (by omega) rfl (fun c3 => ?_) (fun c3 => ?_)
  · refine g_iconst (n := 25) X dX7_skip_24 rfl ?_
    exact hq _ _ _ _ dX7_skip_25 (by omega) ⟨by omega, I, C, gFr.rf⟩
  · refine g_aload_n (n := 12) X 0 dX7_skip_11 rfl rfl rfl ?_
    refine gg_7_0 (n := 15) (z := o + 1) X (by decide) (gsz hsz (by decide)) lay_159 kw_2_211 dX7_skip_12 rfl ht (by omega) ?_
    refine g_aload_n (n := 16) X 0 dX7_skip_15 rfl rfl rfl ?_
    refine gg_7_2 (n := 19) (z := v1) X (by decide) (gsz hsz (by decide)) lay_159 kw_2_213 dX7_skip_16 rfl hv1 ?_
    obtain ⟨v4, hv4, rv4⟩ := gRd I (A1o0 r_o) (A1osz hsz r_o) (rAA_1 r_o v1).1
    refine g_bald2 (n := 20) (v := v4) X (A1o0 r_o) (A1osz hsz r_o) (lay2_A1 r_o) (by omega) (by omega) (by decide) dX7_skip_19 rfl hv4 ?_
    refine g_iload_n (n := 21) X 1 dX7_skip_20 rfl rfl rfl ?_
    refine g_icmp_eq (n := 24) (tgt := 26) X dX7_skip_21 (by decide) (by omega) (by omega) rfl (fun c5 => ?_) (fun c5 => ?_)
    · refine g_aload_n (n := 27) X 0 dX7_skip_26 rfl rfl rfl ?_
      refine g_dup (n := 28) X dX7_skip_27 rfl rfl ?_
      refine gg_7_2 (n := 31) (z := v1) X (by decide) (gsz hsz (by decide)) lay_159 kw_2_213 dX7_skip_28 rfl hv1 ?_
      refine g_iconst (n := 32) X dX7_skip_31 rfl ?_
      refine g_iadd (n := 33) (z := v1 + 1) X dX7_skip_32 (by omega) rfl ?_
      refine gp_7_2 (n := 36) X (by decide) (gsz hsz (by decide)) lay_159 kw_2_213 dX7_skip_33 rfl ?_
      refine G.nm (fun M6 e7 => ?_)
      have IM6 : gI sz M6 := gI.set I rc_159_2.1 (by omega) e7
      have CM6 : gC sz M6 := gC.set C rc_159_2.2.1 e7
      refine g_iconst (n := 37) X dX7_skip_36 rfl ?_
      exact hq _ _ _ _ dX7_skip_37 (by omega) ⟨by omega, IM6, CM6, (gFr.s gFr.rf e7 rc_159_2.2.2 rfl)⟩
    · refine g_iconst (n := 25) X dX7_skip_24 rfl ?_
      exact hq _ _ _ _ dX7_skip_25 (by omega) ⟨by omega, I, C, gFr.rf⟩
theorem dX7_readNumber_0 : decode cX7_readNumber 0 = .ok (.iconst 0, 1) := by decide +kernel
theorem dX7_readNumber_1 : decode cX7_readNumber 1 = .ok (.istore_n 2, 1) := by decide +kernel
theorem dX7_readNumber_2 : decode cX7_readNumber 2 = .ok (.iconst 0, 1) := by decide +kernel
theorem dX7_readNumber_3 : decode cX7_readNumber 3 = .ok (.istore_n 3, 1) := by decide +kernel
theorem dX7_readNumber_4 : decode cX7_readNumber 4 = .ok (.iload_n 3, 1) := by decide +kernel
theorem dX7_readNumber_5 : decode cX7_readNumber 5 = .ok (.iload_n 1, 1) := by decide +kernel
theorem dX7_readNumber_6 : decode cX7_readNumber 6 = .ok (.if_icmp .ge 86, 3) := by decide +kernel
theorem dX7_readNumber_9 : decode cX7_readNumber 9 = .ok (.aload_n 0, 1) := by decide +kernel
theorem dX7_readNumber_10 : decode cX7_readNumber 10 = .ok (.getfield 23, 3) := by decide +kernel
theorem dX7_readNumber_13 : decode cX7_readNumber 13 = .ok (.aload_n 0, 1) := by decide +kernel
theorem dX7_readNumber_14 : decode cX7_readNumber 14 = .ok (.getfield 22, 3) := by decide +kernel
theorem dX7_readNumber_17 : decode cX7_readNumber 17 = .ok (.if_icmp .ge 75, 3) := by decide +kernel
theorem dX7_readNumber_92 : decode cX7_readNumber 92 = .ok (.iload_n 3, 1) := by decide +kernel
theorem dX7_readNumber_93 : decode cX7_readNumber 93 = .ok (.ifCond .ne 7, 3) := by decide +kernel
theorem dX7_readNumber_96 : decode cX7_readNumber 96 = .ok (.iconst (-1), 1) := by decide +kernel
theorem dX7_readNumber_97 : decode cX7_readNumber 97 = .ok (.goto 4, 3) := by decide +kernel
theorem dX7_readNumber_101 : decode cX7_readNumber 101 = .ok (.ireturn, 1) := by decide +kernel
theorem dX7_readNumber_20 : decode cX7_readNumber 20 = .ok (.aload_n 0, 1) := by decide +kernel
theorem dX7_readNumber_21 : decode cX7_readNumber 21 = .ok (.getfield 9, 3) := by decide +kernel
theorem dX7_readNumber_24 : decode cX7_readNumber 24 = .ok (.aload_n 0, 1) := by decide +kernel
theorem dX7_readNumber_25 : decode cX7_readNumber 25 = .ok (.getfield 23, 3) := by decide +kernel
theorem dX7_readNumber_28 : decode cX7_readNumber 28 = .ok (.baload, 1) := by decide +kernel
theorem dX7_readNumber_29 : decode cX7_readNumber 29 = .ok (.bipush 48, 2) := by decide +kernel
theorem dX7_readNumber_31 : decode cX7_readNumber 31 = .ok (.if_icmp .lt 61, 3) := by decide +kernel
theorem dX7_readNumber_34 : decode cX7_readNumber 34 = .ok (.aload_n 0, 1) := by decide +kernel
theorem dX7_readNumber_35 : decode cX7_readNumber 35 = .ok (.getfield 9, 3) := by decide +kernel
theorem dX7_readNumber_38 : decode cX7_readNumber 38 = .ok (.aload_n 0, 1) := by decide +kernel
theorem dX7_readNumber_39 : decode cX7_readNumber 39 = .ok (.getfield 23, 3) := by decide +kernel
theorem dX7_readNumber_42 : decode cX7_readNumber 42 = .ok (.baload, 1) := by decide +kernel
theorem dX7_readNumber_43 : decode cX7_readNumber 43 = .ok (.bipush 57, 2) := by decide +kernel
theorem dX7_readNumber_45 : decode cX7_readNumber 45 = .ok (.if_icmp .gt 47, 3) := by decide +kernel
theorem dX7_readNumber_48 : decode cX7_readNumber 48 = .ok (.iload_n 3, 1) := by decide +kernel
theorem dX7_readNumber_49 : decode cX7_readNumber 49 = .ok (.ifCond .le 9, 3) := by decide +kernel
theorem dX7_readNumber_58 : decode cX7_readNumber 58 = .ok (.bipush 10, 2) := by decide +kernel
theorem dX7_readNumber_60 : decode cX7_readNumber 60 = .ok (.iload_n 2, 1) := by decide +kernel
theorem dX7_readNumber_61 : decode cX7_readNumber 61 = .ok (.imul, 1) := by decide +kernel
theorem dX7_readNumber_62 : decode cX7_readNumber 62 = .ok (.aload_n 0, 1) := by decide +kernel
theorem dX7_readNumber_63 : decode cX7_readNumber 63 = .ok (.getfield 9, 3) := by decide +kernel
theorem dX7_readNumber_66 : decode cX7_readNumber 66 = .ok (.aload_n 0, 1) := by decide +kernel
theorem dX7_readNumber_67 : decode cX7_readNumber 67 = .ok (.getfield 23, 3) := by decide +kernel
theorem dX7_readNumber_70 : decode cX7_readNumber 70 = .ok (.baload, 1) := by decide +kernel
theorem dX7_readNumber_71 : decode cX7_readNumber 71 = .ok (.iadd, 1) := by decide +kernel
theorem dX7_readNumber_72 : decode cX7_readNumber 72 = .ok (.bipush 48, 2) := by decide +kernel
theorem dX7_readNumber_74 : decode cX7_readNumber 74 = .ok (.isub, 1) := by decide +kernel
theorem dX7_readNumber_75 : decode cX7_readNumber 75 = .ok (.istore_n 2, 1) := by decide +kernel
theorem dX7_readNumber_76 : decode cX7_readNumber 76 = .ok (.iinc 3 1, 3) := by decide +kernel
theorem dX7_readNumber_79 : decode cX7_readNumber 79 = .ok (.aload_n 0, 1) := by decide +kernel
theorem dX7_readNumber_80 : decode cX7_readNumber 80 = .ok (.dup, 1) := by decide +kernel
theorem dX7_readNumber_81 : decode cX7_readNumber 81 = .ok (.getfield 23, 3) := by decide +kernel
theorem dX7_readNumber_84 : decode cX7_readNumber 84 = .ok (.iconst 1, 1) := by decide +kernel
theorem dX7_readNumber_85 : decode cX7_readNumber 85 = .ok (.iadd, 1) := by decide +kernel
theorem dX7_readNumber_86 : decode cX7_readNumber 86 = .ok (.putfield 23, 3) := by decide +kernel
theorem dX7_readNumber_89 : decode cX7_readNumber 89 = .ok (.goto (-85), 3) := by decide +kernel
theorem dX7_readNumber_100 : decode cX7_readNumber 100 = .ok (.iload_n 2, 1) := by decide +kernel
theorem rc_159_0 : gRg 159 0 = (0, 400) ∧ gCr 159 0 = false ∧ gG 159 0 = 27 := by decide +kernel
theorem dX7_readNumber_52 : decode cX7_readNumber 52 = .ok (.iload_n 2, 1) := by decide +kernel
theorem dX7_readNumber_53 : decode cX7_readNumber 53 = .ok (.ifCond .ne 5, 3) := by decide +kernel
theorem dX7_readNumber_56 : decode cX7_readNumber 56 = .ok (.iload_n 2, 1) := by decide +kernel
theorem dX7_readNumber_57 : decode cX7_readNumber 57 = .ok (.ireturn, 1) := by decide +kernel
abbrev R_X7_readNumber : Room := { frames := 0, cells := 0, slots := 0, locals := 0 }
set_option maxRecDepth 100000 in
set_option maxHeartbeats 4000000 in
theorem s_X7_readNumber {l : Launch} {n0 : Nat} {D : va_G} {cA : Nat → ClassId} {M : gM} (a : Int) (r_a : 1 ≤ a ∧ a ≤ 4) (o : Int) (r_o : 87 ≤ o ∧ o ≤ 147 ∧ (o - 87) % 6 = 0) {sz : Nat} (hsz : 206 ≤ sz) (I : gI sz M) (C : gC sz M) (ht : M 159 0 = o + 1 + 1)  : Met l yX7_readNumber (gWsOf yX7_readNumber cX7_readNumber 4 (Option.some Jvm.ClassFile.FieldType.int)) R_X7_readNumber (gPc n0 D cA [gA n0 159, gJ a] M sz) (gQi n0 D cA sz (fun z M1 => (-2147483648 ≤ z ∧ z ≤ 2147483647) ∧ gI sz M1 ∧ gC sz M1 ∧ gFr 67108864 M M1)) 0 0 (fun q => n0 ≤ q) := by
  refine gMetI [gA n0 159, gJ a] (by decide) (Nat.le_of_ble_eq_true rfl) ⟨rfl, rfl⟩ ?_
  intro p e s m args below meth cd Q X hq
  have X : gCx p s m args meth cd n0 D cA "ParishUnion$Reader" cX7_readNumber 4 := X
  show G p l e R_X7_readNumber s m args below meth cd n0 D cA 4 Q 0 0 M sz 0 [(0, gA n0 159), (1, gJ a)] []
  refine g_iconst (n := 1) X dX7_readNumber_0 rfl ?_
  refine g_istore_n (n := 2) (L' := [(2, gJ 0), (0, gA n0 159), (1, gJ a)]) X dX7_readNumber_1 rfl (by decide) rfl rfl ?_
  refine g_iconst (n := 3) X dX7_readNumber_2 rfl ?_
  refine g_istore_n (n := 4) (L' := [(3, gJ 0), (2, gJ 0), (0, gA n0 159), (1, gJ a)]) X dX7_readNumber_3 rfl (by decide) rfl rfl ?_
  have j4 : ∀ (N223 : Nat) (v1 v2 : Int) (M3 : gM) , (-2147483648 ≤ v1 ∧ v1 ≤ 2147483647) → (0 ≤ v2 ∧ v2 ≤ 4) → gI sz M3 → gC sz M3 → gFr 67108864 M M3 → (4 - v2).toNat < N223 → G p l e R_X7_readNumber s m args below meth cd n0 D cA 4 Q 0 0 M3 sz 4 [(0, gA n0 159), (1, gJ a), (2, gJ v1), (3, gJ v2)] [] := by
    intro N223; induction N223 with
    | zero => intro v1 v2 M3 rv1 rv2 IM3 CM3 FM3 hm225; exfalso; omega
    | succ N223 ih224 =>
      intro v1 v2 M3 rv1 rv2 IM3 CM3 FM3 hm225
      refine g_iload_n (n := 5) X 3 dX7_readNumber_4 rfl rfl rfl ?_
      refine g_iload_n (n := 6) X 1 dX7_readNumber_5 rfl rfl rfl ?_
      refine g_icmp_ge (n := 9) (tgt := 92) X dX7_readNumber_6 (by decide) (by omega) (by omega) rfl (fun c226 => ?_) (fun c226 => ?_)
      · refine g_iload_n (n := 93) X 3 dX7_readNumber_92 rfl rfl rfl ?_
        refine g_if_ne (n := 96) (tgt := 100) X dX7_readNumber_93 (by decide) (by omega) rfl (fun c227 => ?_) (fun c227 => by exfalso; omega)
        refine g_iload_n (n := 101) X 2 dX7_readNumber_100 rfl rfl rfl ?_
        exact hq _ _ _ _ dX7_readNumber_101 ⟨by omega, IM3, CM3, (gFr.c gFr.rf FM3 rfl)⟩
      · refine g_aload_n (n := 10) X 0 dX7_readNumber_9 rfl rfl rfl ?_
        obtain ⟨v228, hv228, rv228⟩ := gRd IM3 (by decide) (gsz hsz (by decide)) rc_159_2.1
        refine gg_7_2 (n := 13) (z := v228) X (by decide) (gsz hsz (by decide)) lay_159 kw_2_213 dX7_readNumber_10 rfl hv228 ?_
        refine g_aload_n (n := 14) X 0 dX7_readNumber_13 rfl rfl rfl ?_
        obtain ⟨v229, hv229, rv229⟩ := gRd IM3 (by decide) (gsz hsz (by decide)) rc_159_1.1
        refine gg_7_1 (n := 17) (z := v229) X (by decide) (gsz hsz (by decide)) lay_159 kw_2_212 dX7_readNumber_14 rfl hv229 ?_
        refine g_icmp_ge (n := 20) (tgt := 92) X dX7_readNumber_17 (by decide) (by omega) (by omega) rfl (fun c230 => ?_) (fun c230 => ?_)
        · refine g_iload_n (n := 93) X 3 dX7_readNumber_92 rfl rfl rfl ?_
          refine g_if_ne (n := 96) (tgt := 100) X dX7_readNumber_93 (by decide) (by omega) rfl (fun c231 => ?_) (fun c231 => ?_)
          · refine g_iload_n (n := 101) X 2 dX7_readNumber_100 rfl rfl rfl ?_
            exact hq _ _ _ _ dX7_readNumber_101 ⟨by omega, IM3, CM3, (gFr.c gFr.rf FM3 rfl)⟩
          · refine g_iconst (n := 97) X dX7_readNumber_96 rfl ?_
            refine g_goto (tgt := 101) X dX7_readNumber_97 (by decide) ?_
            exact hq _ _ _ _ dX7_readNumber_101 ⟨by omega, IM3, CM3, (gFr.c gFr.rf FM3 rfl)⟩
        · refine g_aload_n (n := 21) X 0 dX7_readNumber_20 rfl rfl rfl ?_
          refine gg_7_0 (n := 24) (z := o + 1) X (by decide) (gsz hsz (by decide)) lay_159 kw_2_211 dX7_readNumber_21 rfl ((gFr.at FM3 rc_159_0.2.2 rfl).trans ht) (by omega) ?_
          refine g_aload_n (n := 25) X 0 dX7_readNumber_24 rfl rfl rfl ?_
          refine gg_7_2 (n := 28) (z := v228) X (by decide) (gsz hsz (by decide)) lay_159 kw_2_213 dX7_readNumber_25 rfl hv228 ?_
          obtain ⟨v232, hv232, rv232⟩ := gRd IM3 (A1o0 r_o) (A1osz hsz r_o) (rAA_1 r_o v228).1
          refine g_bald2 (n := 29) (v := v232) X (A1o0 r_o) (A1osz hsz r_o) (lay2_A1 r_o) (by omega) (by omega) (by decide) dX7_readNumber_28 rfl hv232 ?_
          refine g_bipush (n := 31) X dX7_readNumber_29 (by decide +kernel) rfl ?_
          refine g_icmp_lt (n := 34) (tgt := 92) X dX7_readNumber_31 (by decide) (by omega) (by omega) rfl (fun c233 => ?_) (fun c233 => ?_)
          · refine g_iload_n (n := 93) X 3 dX7_readNumber_92 rfl rfl rfl ?_
            refine g_if_ne (n := 96) (tgt := 100) X dX7_readNumber_93 (by decide) (by omega) rfl (fun c234 => ?_) (fun c234 => ?_)
            · refine g_iload_n (n := 101) X 2 dX7_readNumber_100 rfl rfl rfl ?_
              exact hq _ _ _ _ dX7_readNumber_101 ⟨by omega, IM3, CM3, (gFr.c gFr.rf FM3 rfl)⟩
            · refine g_iconst (n := 97) X dX7_readNumber_96 rfl ?_
              refine g_goto (tgt := 101) X dX7_readNumber_97 (by decide) ?_
              exact hq _ _ _ _ dX7_readNumber_101 ⟨by omega, IM3, CM3, (gFr.c gFr.rf FM3 rfl)⟩
          · refine g_aload_n (n := 35) X 0 dX7_readNumber_34 rfl rfl rfl ?_
            refine gg_7_0 (n := 38) (z := o + 1) X (by decide) (gsz hsz (by decide)) lay_159 kw_2_211 dX7_readNumber_35 rfl ((gFr.at FM3 rc_159_0.2.2 rfl).trans ht) (by omega) ?_
            refine g_aload_n (n := 39) X 0 dX7_readNumber_38 rfl rfl rfl ?_
            refine gg_7_2 (n := 42) (z := v228) X (by decide) (gsz hsz (by decide)) lay_159 kw_2_213 dX7_readNumber_39 rfl hv228 ?_
            refine g_bald2 (n := 43) (v := v232) X (A1o0 r_o) (A1osz hsz r_o) (lay2_A1 r_o) (by omega) (by omega) (by decide) dX7_readNumber_42 rfl hv232 ?_
            refine g_bipush (n := 45) X dX7_readNumber_43 (by decide +kernel) rfl ?_
            refine g_icmp_gt (n := 48) (tgt := 92) X dX7_readNumber_45 (by decide) (by omega) (by omega) rfl (fun c235 => ?_) (fun c235 => ?_)
            · refine g_iload_n (n := 93) X 3 dX7_readNumber_92 rfl rfl rfl ?_
              refine g_if_ne (n := 96) (tgt := 100) X dX7_readNumber_93 (by decide) (by omega) rfl (fun c236 => ?_) (fun c236 => ?_)
              · refine g_iload_n (n := 101) X 2 dX7_readNumber_100 rfl rfl rfl ?_
                exact hq _ _ _ _ dX7_readNumber_101 ⟨by omega, IM3, CM3, (gFr.c gFr.rf FM3 rfl)⟩
              · refine g_iconst (n := 97) X dX7_readNumber_96 rfl ?_
                refine g_goto (tgt := 101) X dX7_readNumber_97 (by decide) ?_
                exact hq _ _ _ _ dX7_readNumber_101 ⟨by omega, IM3, CM3, (gFr.c gFr.rf FM3 rfl)⟩
            · refine g_iload_n (n := 49) X 3 dX7_readNumber_48 rfl rfl rfl ?_
              refine g_if_le (n := 52) (tgt := 58) X dX7_readNumber_49 (by decide) (by omega) rfl (fun c237 => ?_) (fun c237 => ?_)
              · refine g_bipush (n := 60) X dX7_readNumber_58 (by decide +kernel) rfl ?_
                refine g_iload_n (n := 61) X 2 dX7_readNumber_60 rfl rfl rfl ?_
                refine g_imulA (n := 62) X dX7_readNumber_61 rfl (fun v238 rv238 xv238 => ?_)
                clear xv238
                refine g_aload_n (n := 63) X 0 dX7_readNumber_62 rfl rfl rfl ?_
                refine gg_7_0 (n := 66) (z := o + 1) X (by decide) (gsz hsz (by decide)) lay_159 kw_2_211 dX7_readNumber_63 rfl ((gFr.at FM3 rc_159_0.2.2 rfl).trans ht) (by omega) ?_
                refine g_aload_n (n := 67) X 0 dX7_readNumber_66 rfl rfl rfl ?_
                refine gg_7_2 (n := 70) (z := v228) X (by decide) (gsz hsz (by decide)) lay_159 kw_2_213 dX7_readNumber_67 rfl hv228 ?_
                refine g_bald2 (n := 71) (v := v232) X (A1o0 r_o) (A1osz hsz r_o) (lay2_A1 r_o) (by omega) (by omega) (by decide) dX7_readNumber_70 rfl hv232 ?_
                refine g_iaddA (n := 72) X dX7_readNumber_71 rfl (fun v239 rv239 xv239 => ?_)
                clear xv239
                refine g_bipush (n := 74) X dX7_readNumber_72 (by decide +kernel) rfl ?_
                refine g_isubA (n := 75) X dX7_readNumber_74 rfl (fun v240 rv240 xv240 => ?_)
                clear xv240
                refine g_istore_n (n := 76) (L' := [(2, gJ v240), (0, gA n0 159), (1, gJ a), (3, gJ v2)]) X dX7_readNumber_75 rfl (by decide) rfl rfl ?_
                refine g_iinc (n := 79) (w := v2 + 1) (L' := [(3, gJ (v2 + 1)), (2, gJ v240), (0, gA n0 159), (1, gJ a)]) X 3 dX7_readNumber_76 rfl rfl (by decide) rfl rfl ?_
                refine g_aload_n (n := 80) X 2 dX7_readNumber_79 rfl rfl rfl ?_
                refine g_dup (n := 81) X dX7_readNumber_80 rfl rfl ?_
                refine gg_7_2 (n := 84) (z := v228) X (by decide) (gsz hsz (by decide)) lay_159 kw_2_213 dX7_readNumber_81 rfl hv228 ?_
                refine g_iconst (n := 85) X dX7_readNumber_84 rfl ?_
                refine g_iadd (n := 86) (z := v228 + 1) X dX7_readNumber_85 (by omega) rfl ?_
                refine gp_7_2 (n := 89) X (by decide) (gsz hsz (by decide)) lay_159 kw_2_213 dX7_readNumber_86 rfl ?_
                refine G.nm (fun M241 e242 => ?_)
                have IM241 : gI sz M241 := gI.set IM3 rc_159_2.1 (by omega) e242
                have CM241 : gC sz M241 := gC.set CM3 rc_159_2.2.1 e242
                refine g_goto (tgt := 4) X dX7_readNumber_89 (by decide) ?_
                refine G.sub (L' := [(0, gA n0 159), (1, gJ a), (2, gJ v240), (3, gJ (v2 + 1))]) [2, 3, 1, 0] rfl ?_
                exact ih224 v240 (v2 + 1) M241 (by omega) (by omega) IM241 CM241 (gFr.s (gFr.c gFr.rf FM3 rfl) e242 rc_159_2.2.2 rfl) (by omega)
              · refine g_iload_n (n := 53) X 2 dX7_readNumber_52 rfl rfl rfl ?_
                refine g_if_ne (n := 56) (tgt := 58) X dX7_readNumber_53 (by decide) (by omega) rfl (fun c243 => ?_) (fun c243 => ?_)
                · refine g_bipush (n := 60) X dX7_readNumber_58 (by decide +kernel) rfl ?_
                  refine g_iload_n (n := 61) X 2 dX7_readNumber_60 rfl rfl rfl ?_
                  refine g_imulA (n := 62) X dX7_readNumber_61 rfl (fun v244 rv244 xv244 => ?_)
                  clear xv244
                  refine g_aload_n (n := 63) X 0 dX7_readNumber_62 rfl rfl rfl ?_
                  refine gg_7_0 (n := 66) (z := o + 1) X (by decide) (gsz hsz (by decide)) lay_159 kw_2_211 dX7_readNumber_63 rfl ((gFr.at FM3 rc_159_0.2.2 rfl).trans ht) (by omega) ?_
                  refine g_aload_n (n := 67) X 0 dX7_readNumber_66 rfl rfl rfl ?_
                  refine gg_7_2 (n := 70) (z := v228) X (by decide) (gsz hsz (by decide)) lay_159 kw_2_213 dX7_readNumber_67 rfl hv228 ?_
                  refine g_bald2 (n := 71) (v := v232) X (A1o0 r_o) (A1osz hsz r_o) (lay2_A1 r_o) (by omega) (by omega) (by decide) dX7_readNumber_70 rfl hv232 ?_
                  refine g_iaddA (n := 72) X dX7_readNumber_71 rfl (fun v245 rv245 xv245 => ?_)
                  clear xv245
                  refine g_bipush (n := 74) X dX7_readNumber_72 (by decide +kernel) rfl ?_
                  refine g_isubA (n := 75) X dX7_readNumber_74 rfl (fun v246 rv246 xv246 => ?_)
                  clear xv246
                  refine g_istore_n (n := 76) (L' := [(2, gJ v246), (0, gA n0 159), (1, gJ a), (3, gJ v2)]) X dX7_readNumber_75 rfl (by decide) rfl rfl ?_
                  refine g_iinc (n := 79) (w := v2 + 1) (L' := [(3, gJ (v2 + 1)), (2, gJ v246), (0, gA n0 159), (1, gJ a)]) X 3 dX7_readNumber_76 rfl rfl (by decide) rfl rfl ?_
                  refine g_aload_n (n := 80) X 2 dX7_readNumber_79 rfl rfl rfl ?_
                  refine g_dup (n := 81) X dX7_readNumber_80 rfl rfl ?_
                  refine gg_7_2 (n := 84) (z := v228) X (by decide) (gsz hsz (by decide)) lay_159 kw_2_213 dX7_readNumber_81 rfl hv228 ?_
                  refine g_iconst (n := 85) X dX7_readNumber_84 rfl ?_
                  refine g_iadd (n := 86) (z := v228 + 1) X dX7_readNumber_85 (by omega) rfl ?_
                  refine gp_7_2 (n := 89) X (by decide) (gsz hsz (by decide)) lay_159 kw_2_213 dX7_readNumber_86 rfl ?_
                  refine G.nm (fun M247 e248 => ?_)
                  have IM247 : gI sz M247 := gI.set IM3 rc_159_2.1 (by omega) e248
                  have CM247 : gC sz M247 := gC.set CM3 rc_159_2.2.1 e248
                  refine g_goto (tgt := 4) X dX7_readNumber_89 (by decide) ?_
                  refine G.sub (L' := [(0, gA n0 159), (1, gJ a), (2, gJ v246), (3, gJ (v2 + 1))]) [2, 3, 1, 0] rfl ?_
                  exact ih224 v246 (v2 + 1) M247 (by omega) (by omega) IM247 CM247 (gFr.s (gFr.c gFr.rf FM3 rfl) e248 rc_159_2.2.2 rfl) (by omega)
                · refine g_iload_n (n := 57) X 2 dX7_readNumber_56 rfl rfl rfl ?_
                  exact hq _ _ _ _ dX7_readNumber_57 ⟨by omega, IM3, CM3, (gFr.c gFr.rf FM3 rfl)⟩
  refine G.sub (L' := [(0, gA n0 159), (1, gJ a), (2, gJ 0), (3, gJ 0)]) [2, 3, 1, 0] rfl ?_
  exact j4 _ 0 0 M (by omega) (by omega) I C gFr.rf (Nat.lt_succ_self _)
theorem dX7_readSign_0 : decode cX7_readSign 0 = .ok (.iconst 0, 1) := by decide +kernel
theorem dX7_readSign_1 : decode cX7_readSign 1 = .ok (.istore_n 2, 1) := by decide +kernel
theorem dX7_readSign_2 : decode cX7_readSign 2 = .ok (.iload_n 2, 1) := by decide +kernel
theorem dX7_readSign_3 : decode cX7_readSign 3 = .ok (.aload_n 1, 1) := by decide +kernel
theorem dX7_readSign_4 : decode cX7_readSign 4 = .ok (.invokevirtual 54, 3) := by decide +kernel
theorem kw_3_235 : (Jvm.Cond.methodLink "ParishUnion$Reader" (54 : Nat) ({ cls := "java/lang/String", name := "length", desc := "()I" } : Jvm.MethodName)) ∈ gT := gT_of (tb_3 _ (List.mem_of_getElem? (i := 235) rfl)) rfl
theorem kw_3_236 : (Jvm.Cond.instanceMethod ({ cls := "java/lang/String", name := "length", desc := "()I" } : Jvm.MethodName)) ∈ gT := gT_of (tb_3 _ (List.mem_of_getElem? (i := 236) rfl)) rfl
theorem kw_3_237 : (Jvm.Cond.selects "java/lang/String" ({ cls := "java/lang/String", name := "length", desc := "()I" } : Jvm.MethodName) ({ cls := "java/lang/String", name := "length", desc := "()I" } : Jvm.MethodName)) ∈ gT := gT_of (tb_3 _ (List.mem_of_getElem? (i := 237) rfl)) rfl
theorem dX7_readSign_7 : decode cX7_readSign 7 = .ok (.if_icmp .ge 23, 3) := by decide +kernel
theorem dX7_readSign_30 : decode cX7_readSign 30 = .ok (.iconst (-1), 1) := by decide +kernel
theorem dX7_readSign_31 : decode cX7_readSign 31 = .ok (.ireturn, 1) := by decide +kernel
theorem dX7_readSign_10 : decode cX7_readSign 10 = .ok (.aload_n 0, 1) := by decide +kernel
theorem dX7_readSign_11 : decode cX7_readSign 11 = .ok (.aload_n 1, 1) := by decide +kernel
theorem dX7_readSign_12 : decode cX7_readSign 12 = .ok (.iload_n 2, 1) := by decide +kernel
theorem dX7_readSign_13 : decode cX7_readSign 13 = .ok (.invokevirtual 59, 3) := by decide +kernel
theorem kw_4_5 : (Jvm.Cond.methodLink "ParishUnion$Reader" (59 : Nat) ({ cls := "java/lang/String", name := "charAt", desc := "(I)C" } : Jvm.MethodName)) ∈ gT := gT_of (tb_4 _ (List.mem_of_getElem? (i := 5) rfl)) rfl
theorem kw_4_6 : (Jvm.Cond.instanceMethod ({ cls := "java/lang/String", name := "charAt", desc := "(I)C" } : Jvm.MethodName)) ∈ gT := gT_of (tb_4 _ (List.mem_of_getElem? (i := 6) rfl)) rfl
theorem kw_4_7 : (Jvm.Cond.selects "java/lang/String" ({ cls := "java/lang/String", name := "charAt", desc := "(I)C" } : Jvm.MethodName) ({ cls := "java/lang/String", name := "charAt", desc := "(I)C" } : Jvm.MethodName)) ∈ gT := gT_of (tb_4 _ (List.mem_of_getElem? (i := 7) rfl)) rfl
theorem dX7_readSign_16 : decode cX7_readSign 16 = .ok (.invokevirtual 30, 3) := by decide +kernel
theorem kw_4_44 : (Jvm.Cond.methodLink "ParishUnion$Reader" (30 : Nat) ({ cls := "ParishUnion$Reader", name := "skip", desc := "(C)Z" } : Jvm.MethodName)) ∈ gT := gT_of (tb_4 _ (List.mem_of_getElem? (i := 44) rfl)) rfl
theorem kw_4_47 : (Jvm.Cond.code ({ cls := "ParishUnion$Reader", name := "skip", desc := "(C)Z" } : Jvm.MethodName) prog_9_method_11_code (2 : Nat) (Option.some Jvm.ClassFile.FieldType.boolean)) ∈ gT := gT_of (tb_4 _ (List.mem_of_getElem? (i := 47) rfl)) rfl
theorem kw_1_12 : (Jvm.Cond.initialized "ParishUnion$Reader") ∈ gT := gT_of (tb_1 _ (List.mem_of_getElem? (i := 12) rfl)) rfl
theorem okX7_skip : gQok yX7_skip cX7_skip 2 (Option.some Jvm.ClassFile.FieldType.boolean) 1 := ⟨kw_4_47, kw_1_12, by decide +kernel, by decide +kernel, by decide +kernel⟩
theorem kw_4_46 : (Jvm.Cond.instanceMethod ({ cls := "ParishUnion$Reader", name := "skip", desc := "(C)Z" } : Jvm.MethodName)) ∈ gT := gT_of (tb_4 _ (List.mem_of_getElem? (i := 46) rfl)) rfl
theorem kw_0_9 : (Jvm.Cond.selects "ParishUnion$Reader" ({ cls := "ParishUnion$Reader", name := "skip", desc := "(C)Z" } : Jvm.MethodName) ({ cls := "ParishUnion$Reader", name := "skip", desc := "(C)Z" } : Jvm.MethodName)) ∈ gT := gT_of (tb_0 _ (List.mem_of_getElem? (i := 9) rfl)) rfl
theorem dX7_readSign_19 : decode cX7_readSign 19 = .ok (.ifCond .eq 5, 3) := by decide +kernel
theorem dX7_readSign_24 : decode cX7_readSign 24 = .ok (.iinc 2 1, 3) := by decide +kernel
theorem dX7_readSign_27 : decode cX7_readSign 27 = .ok (.goto (-25), 3) := by decide +kernel
theorem dX7_readSign_22 : decode cX7_readSign 22 = .ok (.iload_n 2, 1) := by decide +kernel
theorem dX7_readSign_23 : decode cX7_readSign 23 = .ok (.ireturn, 1) := by decide +kernel
abbrev R_X7_readSign : Room := { frames := 4, cells := 0, slots := 0, locals := 85 }
set_option maxRecDepth 100000 in
set_option maxHeartbeats 4000000 in
theorem s_X7_readSign {l : Launch} {n0 : Nat} {D : va_G} {cA : Nat → ClassId} {M : gM} (a : Int) (r_a : 0 ≤ a ∧ a ≤ 25) (o : Int) (r_o : 87 ≤ o ∧ o ≤ 147 ∧ (o - 87) % 6 = 0) {sz : Nat} (hsz : 206 ≤ sz) (I : gI sz M) (C : gC sz M) (ht : M 159 0 = o + 1 + 1)  : Met l yX7_readSign (gWsOf yX7_readSign cX7_readSign 3 (Option.some Jvm.ClassFile.FieldType.int)) R_X7_readSign (gPc n0 D cA [gA n0 159, .ref (cA (100 + (a).toNat))] M sz) (gQi n0 D cA sz (fun z M1 => (-1 ≤ z ∧ z ≤ 9) ∧ gI sz M1 ∧ gC sz M1 ∧ gFr 67108864 M M1 ∧ (z < gSL a))) 0 0 (fun q => n0 ≤ q) := by
  refine gMetI [gA n0 159, .ref (cA (100 + (a).toNat))] (by decide) (Nat.le_of_ble_eq_true rfl) ⟨rfl, rfl⟩ ?_
  intro p e s m args below meth cd Q X hq
  have X : gCx p s m args meth cd n0 D cA "ParishUnion$Reader" cX7_readSign 3 := X
  show G p l e R_X7_readSign s m args below meth cd n0 D cA 3 Q 0 0 M sz 0 [(0, gA n0 159), (1, .ref (cA (100 + (a).toNat)))] []
  refine g_iconst (n := 1) X dX7_readSign_0 rfl ?_
  refine g_istore_n (n := 2) (L' := [(2, gJ 0), (0, gA n0 159), (1, .ref (cA (100 + (a).toNat)))]) X dX7_readSign_1 rfl (by decide) rfl rfl ?_
  have j3 : ∀ (N69 : Nat) (v1 : Int) (M2 : gM) , (0 ≤ v1 ∧ v1 ≤ 10) → gI sz M2 → gC sz M2 → gFr 67108864 M M2 → (10 - v1).toNat < N69 → G p l e R_X7_readSign s m args below meth cd n0 D cA 3 Q 0 0 M2 sz 2 [(0, gA n0 159), (1, .ref (cA (100 + (a).toNat))), (2, gJ v1)] [] := by
    intro N69; induction N69 with
    | zero => intro v1 M2 rv1 IM2 CM2 FM2 hm71; exfalso; omega
    | succ N69 ih70 =>
      intro v1 M2 rv1 IM2 CM2 FM2 hm71
      refine g_iload_n (n := 3) X 2 dX7_readSign_2 rfl rfl rfl ?_
      refine g_aload_n (n := 4) X 1 dX7_readSign_3 rfl rfl rfl ?_
      obtain ⟨q72, hq72⟩ := gSO_at (z := a) (by omega)
      refine g_callSt (n := 7) (As := []) (rest := [gJ v1]) (cs1 := 0) (ss1 := 0) X (a).toNat hq72 (s_J_len a (by omega)) okJ_len kw_3_235 ⟨kw_3_236, kw_3_237⟩ ⟨rfl, rfl⟩ ⟨Nat.le_of_ble_eq_true rfl, Nat.le_of_ble_eq_true rfl⟩ rfl rfl (Nat.le_of_ble_eq_true rfl) ⟨Nat.le_of_ble_eq_true rfl, Nat.le_of_ble_eq_true rfl⟩ rfl rfl dX7_readSign_4 rfl (fun v73 M74 P75 => ?_)
      obtain ⟨rfl, rv73, xv73⟩ := P75
      refine g_icmp_ge (n := 10) (tgt := 30) X dX7_readSign_7 (by decide) (by omega) (by omega) rfl (fun c76 => ?_) (fun c76 => ?_)
      · refine g_iconst (n := 31) X dX7_readSign_30 rfl ?_
        exact hq _ _ _ _ dX7_readSign_31 ⟨by omega, IM2, CM2, (gFr.c gFr.rf FM2 rfl), by omega⟩
      · refine g_aload_n (n := 11) X 0 dX7_readSign_10 rfl rfl rfl ?_
        refine g_aload_n (n := 12) X 1 dX7_readSign_11 rfl rfl rfl ?_
        refine g_iload_n (n := 13) X 2 dX7_readSign_12 rfl rfl rfl ?_
        obtain ⟨q77, hq77⟩ := gSO_at (z := a) (by omega)
        refine g_callSt (n := 16) (As := [gJ v1]) (rest := [gA n0 159]) (cs1 := 0) (ss1 := 0) X (a).toNat hq77 (s_J_chr a (by omega) v1 (by omega) (by omega)) okJ_chr kw_4_5 ⟨kw_4_6, kw_4_7⟩ ⟨rfl, rfl⟩ ⟨Nat.le_of_ble_eq_true rfl, Nat.le_of_ble_eq_true rfl⟩ rfl rfl (Nat.le_of_ble_eq_true rfl) ⟨Nat.le_of_ble_eq_true rfl, Nat.le_of_ble_eq_true rfl⟩ rfl rfl dX7_readSign_13 rfl (fun v78 M79 P80 => ?_)
        obtain ⟨rfl, rv78, xv78⟩ := P80
        refine g_callVi (n := 19) (As := [gJ v78]) (rest := []) (cs1 := 0) (ss1 := 0) X (s_X7_skip v78 (by omega) o r_o hsz IM2 CM2 ((gFr.at FM2 rc_159_0.2.2 rfl).trans ht)) okX7_skip kw_4_44 ⟨kw_4_46, kw_0_9⟩ ⟨rfl, rfl⟩ ⟨Nat.le_of_ble_eq_true rfl, Nat.le_of_ble_eq_true rfl⟩ rfl (by decide) (gsz hsz (by decide)) lay_159 rfl rfl (Nat.le_of_ble_eq_true rfl) ⟨Nat.le_of_ble_eq_true rfl, Nat.le_of_ble_eq_true rfl⟩ rfl rfl dX7_readSign_16 rfl (fun v81 M82 P83 => ?_)
        obtain ⟨rv81, IM82, CM82, FM82⟩ := P83
        refine g_if_eq (n := 22) (tgt := 24) X dX7_readSign_19 (by decide) (by omega) rfl (fun c84 => ?_) (fun c84 => ?_)
        · refine g_iinc (n := 27) (w := v1 + 1) (L' := [(2, gJ (v1 + 1)), (0, gA n0 159), (1, .ref (cA (100 + (a).toNat)))]) X 2 dX7_readSign_24 rfl rfl (by decide) rfl rfl ?_
          refine g_goto (tgt := 2) X dX7_readSign_27 (by decide) ?_
          refine G.sub (L' := [(0, gA n0 159), (1, .ref (cA (100 + (a).toNat))), (2, gJ (v1 + 1))]) [1, 2, 0] rfl ?_
          exact ih70 (v1 + 1) M82 (by omega) IM82 CM82 (gFr.c (gFr.c gFr.rf FM2 rfl) FM82 rfl) (by omega)
        · refine g_iload_n (n := 23) X 2 dX7_readSign_22 rfl rfl rfl ?_
          exact hq _ _ _ _ dX7_readSign_23 ⟨by omega, IM82, CM82, (gFr.c (gFr.c gFr.rf FM2 rfl) FM82 rfl), by omega⟩
  refine G.sub (L' := [(0, gA n0 159), (1, .ref (cA (100 + (a).toNat))), (2, gJ 0)]) [1, 2, 0] rfl ?_
  exact j3 _ 0 M (by omega) I C gFr.rf (Nat.lt_succ_self _)
theorem dX7_readWord_0 : decode cX7_readWord 0 = .ok (.iconst 0, 1) := by decide +kernel
theorem dX7_readWord_1 : decode cX7_readWord 1 = .ok (.istore_n 1, 1) := by decide +kernel
theorem dX7_readWord_2 : decode cX7_readWord 2 = .ok (.iconst 0, 1) := by decide +kernel
theorem dX7_readWord_3 : decode cX7_readWord 3 = .ok (.istore_n 2, 1) := by decide +kernel
theorem dX7_readWord_4 : decode cX7_readWord 4 = .ok (.iload_n 2, 1) := by decide +kernel
theorem dX7_readWord_5 : decode cX7_readWord 5 = .ok (.bipush 10, 2) := by decide +kernel
theorem dX7_readWord_7 : decode cX7_readWord 7 = .ok (.if_icmp .ge 96, 3) := by decide +kernel
theorem dX7_readWord_10 : decode cX7_readWord 10 = .ok (.iload_n 2, 1) := by decide +kernel
theorem dX7_readWord_11 : decode cX7_readWord 11 = .ok (.invokestatic 50, 3) := by decide +kernel
theorem kw_3_224 : (Jvm.Cond.code ({ cls := "ParishUnion$Reader", name := "nameOf", desc := "(I)Ljava/lang/String;" } : Jvm.MethodName) prog_9_method_5_code (1 : Nat) (Option.some (Jvm.ClassFile.FieldType.object "java/lang/String"))) ∈ gT := gT_of (tb_3 _ (List.mem_of_getElem? (i := 224) rfl)) rfl
theorem okX7_nameOf : gQok yX7_nameOf cX7_nameOf 1 (Option.some (Jvm.ClassFile.FieldType.object "java/lang/String")) 1 := ⟨kw_3_224, kw_1_12, by decide +kernel, by decide +kernel, by decide +kernel⟩
theorem kw_3_222 : (Jvm.Cond.methodLink "ParishUnion$Reader" (50 : Nat) ({ cls := "ParishUnion$Reader", name := "nameOf", desc := "(I)Ljava/lang/String;" } : Jvm.MethodName)) ∈ gT := gT_of (tb_3 _ (List.mem_of_getElem? (i := 222) rfl)) rfl
theorem kw_3_223 : (Jvm.Cond.static ({ cls := "ParishUnion$Reader", name := "nameOf", desc := "(I)Ljava/lang/String;" } : Jvm.MethodName)) ∈ gT := gT_of (tb_3 _ (List.mem_of_getElem? (i := 223) rfl)) rfl
theorem dX7_readWord_14 : decode cX7_readWord 14 = .ok (.astore_n 3, 1) := by decide +kernel
theorem dX7_readWord_15 : decode cX7_readWord 15 = .ok (.iconst 0, 1) := by decide +kernel
theorem dX7_readWord_16 : decode cX7_readWord 16 = .ok (.istore 4, 2) := by decide +kernel
theorem dX7_readWord_18 : decode cX7_readWord 18 = .ok (.iload 4, 2) := by decide +kernel
theorem dX7_readWord_20 : decode cX7_readWord 20 = .ok (.aload_n 3, 1) := by decide +kernel
theorem dX7_readWord_21 : decode cX7_readWord 21 = .ok (.invokevirtual 54, 3) := by decide +kernel
theorem dX7_readWord_24 : decode cX7_readWord 24 = .ok (.if_icmp .ge 44, 3) := by decide +kernel
theorem dX7_readWord_68 : decode cX7_readWord 68 = .ok (.iload 4, 2) := by decide +kernel
theorem dX7_readWord_70 : decode cX7_readWord 70 = .ok (.aload_n 3, 1) := by decide +kernel
theorem dX7_readWord_71 : decode cX7_readWord 71 = .ok (.invokevirtual 54, 3) := by decide +kernel
theorem dX7_readWord_74 : decode cX7_readWord 74 = .ok (.if_icmp .ne 16, 3) := by decide +kernel
theorem dX7_readWord_90 : decode cX7_readWord 90 = .ok (.iload_n 1, 1) := by decide +kernel
theorem dX7_readWord_91 : decode cX7_readWord 91 = .ok (.iload 4, 2) := by decide +kernel
theorem dX7_readWord_93 : decode cX7_readWord 93 = .ok (.invokestatic 63, 3) := by decide +kernel
theorem kw_4_43 : (Jvm.Cond.methodLink "ParishUnion$Reader" (63 : Nat) ({ cls := "java/lang/Math", name := "max", desc := "(II)I" } : Jvm.MethodName)) ∈ gT := gT_of (tb_4 _ (List.mem_of_getElem? (i := 43) rfl)) rfl
theorem dX7_readWord_96 : decode cX7_readWord 96 = .ok (.istore_n 1, 1) := by decide +kernel
theorem dX7_readWord_97 : decode cX7_readWord 97 = .ok (.iinc 2 1, 3) := by decide +kernel
theorem dX7_readWord_100 : decode cX7_readWord 100 = .ok (.goto (-96), 3) := by decide +kernel
theorem dX7_readWord_77 : decode cX7_readWord 77 = .ok (.aload_n 0, 1) := by decide +kernel
theorem dX7_readWord_78 : decode cX7_readWord 78 = .ok (.dup, 1) := by decide +kernel
theorem dX7_readWord_79 : decode cX7_readWord 79 = .ok (.getfield 23, 3) := by decide +kernel
theorem dX7_readWord_82 : decode cX7_readWord 82 = .ok (.iload 4, 2) := by decide +kernel
theorem dX7_readWord_84 : decode cX7_readWord 84 = .ok (.iadd, 1) := by decide +kernel
theorem dX7_readWord_85 : decode cX7_readWord 85 = .ok (.putfield 23, 3) := by decide +kernel
theorem dX7_readWord_88 : decode cX7_readWord 88 = .ok (.iload_n 2, 1) := by decide +kernel
theorem dX7_readWord_89 : decode cX7_readWord 89 = .ok (.ireturn, 1) := by decide +kernel
theorem dX7_readWord_27 : decode cX7_readWord 27 = .ok (.aload_n 0, 1) := by decide +kernel
theorem dX7_readWord_28 : decode cX7_readWord 28 = .ok (.getfield 23, 3) := by decide +kernel
theorem dX7_readWord_31 : decode cX7_readWord 31 = .ok (.iload 4, 2) := by decide +kernel
theorem dX7_readWord_33 : decode cX7_readWord 33 = .ok (.iadd, 1) := by decide +kernel
theorem dX7_readWord_34 : decode cX7_readWord 34 = .ok (.aload_n 0, 1) := by decide +kernel
theorem dX7_readWord_35 : decode cX7_readWord 35 = .ok (.getfield 22, 3) := by decide +kernel
theorem dX7_readWord_38 : decode cX7_readWord 38 = .ok (.if_icmp .ge 30, 3) := by decide +kernel
theorem dX7_readWord_41 : decode cX7_readWord 41 = .ok (.aload_n 0, 1) := by decide +kernel
theorem dX7_readWord_42 : decode cX7_readWord 42 = .ok (.getfield 9, 3) := by decide +kernel
theorem dX7_readWord_45 : decode cX7_readWord 45 = .ok (.aload_n 0, 1) := by decide +kernel
theorem dX7_readWord_46 : decode cX7_readWord 46 = .ok (.getfield 23, 3) := by decide +kernel
theorem dX7_readWord_49 : decode cX7_readWord 49 = .ok (.iload 4, 2) := by decide +kernel
theorem dX7_readWord_51 : decode cX7_readWord 51 = .ok (.iadd, 1) := by decide +kernel
theorem dX7_readWord_52 : decode cX7_readWord 52 = .ok (.baload, 1) := by decide +kernel
theorem dX7_readWord_53 : decode cX7_readWord 53 = .ok (.aload_n 3, 1) := by decide +kernel
theorem dX7_readWord_54 : decode cX7_readWord 54 = .ok (.iload 4, 2) := by decide +kernel
theorem dX7_readWord_56 : decode cX7_readWord 56 = .ok (.invokevirtual 59, 3) := by decide +kernel
theorem dX7_readWord_59 : decode cX7_readWord 59 = .ok (.if_icmp .ne 9, 3) := by decide +kernel
theorem dX7_readWord_62 : decode cX7_readWord 62 = .ok (.iinc 4 1, 3) := by decide +kernel
theorem dX7_readWord_65 : decode cX7_readWord 65 = .ok (.goto (-47), 3) := by decide +kernel
theorem dX7_readWord_103 : decode cX7_readWord 103 = .ok (.aload_n 0, 1) := by decide +kernel
theorem dX7_readWord_104 : decode cX7_readWord 104 = .ok (.dup, 1) := by decide +kernel
theorem dX7_readWord_105 : decode cX7_readWord 105 = .ok (.getfield 23, 3) := by decide +kernel
theorem dX7_readWord_108 : decode cX7_readWord 108 = .ok (.iload_n 1, 1) := by decide +kernel
theorem dX7_readWord_109 : decode cX7_readWord 109 = .ok (.iadd, 1) := by decide +kernel
theorem dX7_readWord_110 : decode cX7_readWord 110 = .ok (.putfield 23, 3) := by decide +kernel
theorem dX7_readWord_113 : decode cX7_readWord 113 = .ok (.iconst (-1), 1) := by decide +kernel
theorem dX7_readWord_114 : decode cX7_readWord 114 = .ok (.ireturn, 1) := by decide +kernel
abbrev R_X7_readWord : Room := { frames := 4, cells := 0, slots := 0, locals := 120 }
set_option maxRecDepth 100000 in
set_option maxHeartbeats 4000000 in
theorem s_X7_readWord {l : Launch} {n0 : Nat} {D : va_G} {cA : Nat → ClassId} {M : gM} (o : Int) (r_o : 87 ≤ o ∧ o ≤ 147 ∧ (o - 87) % 6 = 0) {sz : Nat} (hsz : 206 ≤ sz) (I : gI sz M) (C : gC sz M) (ht : M 159 0 = o + 1 + 1)  : Met l yX7_readWord (gWsOf yX7_readWord cX7_readWord 5 (Option.some Jvm.ClassFile.FieldType.int)) R_X7_readWord (gPc n0 D cA [gA n0 159] M sz) (gQi n0 D cA sz (fun z M1 => (-1 ≤ z ∧ z ≤ 9) ∧ gI sz M1 ∧ gC sz M1 ∧ gFr 67108864 M M1)) 0 0 (fun q => n0 ≤ q) := by
  refine gMetI [gA n0 159] (by decide) (Nat.le_of_ble_eq_true rfl) ⟨rfl, rfl⟩ ?_
  intro p e s m args below meth cd Q X hq
  have X : gCx p s m args meth cd n0 D cA "ParishUnion$Reader" cX7_readWord 5 := X
  show G p l e R_X7_readWord s m args below meth cd n0 D cA 5 Q 0 0 M sz 0 [(0, gA n0 159)] []
  obtain ⟨v1, hv1, rv1⟩ := gRd I (by decide) (gsz hsz (by decide)) rc_159_2.1
  refine g_iconst (n := 1) X dX7_readWord_0 rfl ?_
  refine g_istore_n (n := 2) (L' := [(1, gJ 0), (0, gA n0 159)]) X dX7_readWord_1 rfl (by decide) rfl rfl ?_
  refine g_iconst (n := 3) X dX7_readWord_2 rfl ?_
  refine g_istore_n (n := 4) (L' := [(2, gJ 0), (1, gJ 0), (0, gA n0 159)]) X dX7_readWord_3 rfl (by decide) rfl rfl ?_
  have j5 : ∀ (N1168 : Nat) (v2 v3 : Int) , (0 ≤ v2 ∧ v2 ≤ 10) → (0 ≤ v3 ∧ v3 ≤ 10) → (M 159 2 + v2 ≤ 150) → (10 - v3).toNat < N1168 → G p l e R_X7_readWord s m args below meth cd n0 D cA 5 Q 0 0 M sz 4 [(0, gA n0 159), (1, gJ v2), (2, gJ v3)] [] := by
    intro N1168; induction N1168 with
    | zero => intro v2 v3 rv2 rv3 hl hm1170; exfalso; omega
    | succ N1168 ih1169 =>
      intro v2 v3 rv2 rv3 hl hm1170
      refine g_iload_n (n := 5) X 2 dX7_readWord_4 rfl rfl rfl ?_
      refine g_bipush (n := 7) X dX7_readWord_5 (by decide +kernel) rfl ?_
      refine g_icmp_ge (n := 10) (tgt := 103) X dX7_readWord_7 (by decide) (by omega) (by omega) rfl (fun c1171 => ?_) (fun c1171 => ?_)
      · refine g_aload_n (n := 104) X 0 dX7_readWord_103 rfl rfl rfl ?_
        refine g_dup (n := 105) X dX7_readWord_104 rfl rfl ?_
        refine gg_7_2 (n := 108) (z := v1) X (by decide) (gsz hsz (by decide)) lay_159 kw_2_213 dX7_readWord_105 rfl hv1 ?_
        refine g_iload_n (n := 109) X 1 dX7_readWord_108 rfl rfl rfl ?_
        refine g_iadd (n := 110) (z := v1 + v2) X dX7_readWord_109 rfl rfl ?_
        refine gp_7_2 (n := 113) X (by decide) (gsz hsz (by decide)) lay_159 kw_2_213 dX7_readWord_110 rfl ?_
        refine G.nm (fun M1172 e1173 => ?_)
        have IM1172 : gI sz M1172 := gI.set I rc_159_2.1 (by omega) e1173
        have CM1172 : gC sz M1172 := gC.set C rc_159_2.2.1 e1173
        refine g_iconst (n := 114) X dX7_readWord_113 rfl ?_
        exact hq _ _ _ _ dX7_readWord_114 ⟨by omega, IM1172, CM1172, (gFr.s gFr.rf e1173 rc_159_2.2.2 rfl)⟩
      · refine g_iload_n (n := 11) X 2 dX7_readWord_10 rfl rfl rfl ?_
        refine g_callSs (n := 14) (As := [gJ v3]) (rest := []) (cs1 := 0) (ss1 := 0) X (c_X7_nameOf v3 (by omega) (by omega)) okX7_nameOf kw_3_222 kw_3_223 ⟨rfl, rfl⟩ ⟨Nat.le_of_ble_eq_true rfl, Nat.le_of_ble_eq_true rfl⟩ rfl rfl (Nat.le_of_ble_eq_true rfl) ⟨Nat.le_of_ble_eq_true rfl, Nat.le_of_ble_eq_true rfl⟩ rfl rfl dX7_readWord_11 rfl (fun v1174 M1175 P1176 => ?_)
        obtain ⟨rfl, xv1174⟩ := P1176
        refine g_astore_n (n := 15) (L' := [(3, .ref (cA (100 + (v1174).toNat))), (0, gA n0 159), (1, gJ v2), (2, gJ v3)]) X dX7_readWord_14 rfl (by decide) rfl rfl ?_
        refine g_iconst (n := 16) X dX7_readWord_15 rfl ?_
        refine g_istore (n := 18) (L' := [(4, gJ 0), (3, .ref (cA (100 + (v1174).toNat))), (0, gA n0 159), (1, gJ v2), (2, gJ v3)]) X dX7_readWord_16 (by decide) rfl rfl ?_
        have j1179 : ∀ (N1365 : Nat) (v1177 : Int) , (0 ≤ v1177 ∧ v1177 ≤ 10) → (M 159 2 + v1177 ≤ 150) → (10 - v1177).toNat < N1365 → G p l e R_X7_readWord s m args below meth cd n0 D cA 5 Q 0 0 M sz 18 [(0, gA n0 159), (1, gJ v2), (2, gJ v3), (3, .ref (cA (100 + (v1174).toNat))), (4, gJ v1177)] [] := by
          intro N1365; induction N1365 with
          | zero => intro v1177 rv1177 hs hm1367; exfalso; omega
          | succ N1365 ih1366 =>
            intro v1177 rv1177 hs hm1367
            refine g_iload (n := 20) X 4 dX7_readWord_18 rfl rfl ?_
            refine g_aload_n (n := 21) X 3 dX7_readWord_20 rfl rfl rfl ?_
            obtain ⟨q1368, hq1368⟩ := gSO_at (z := v1174) (by omega)
            refine g_callSt (n := 24) (As := []) (rest := [gJ v1177]) (cs1 := 0) (ss1 := 0) X (v1174).toNat hq1368 (s_J_len v1174 (by omega)) okJ_len kw_3_235 ⟨kw_3_236, kw_3_237⟩ ⟨rfl, rfl⟩ ⟨Nat.le_of_ble_eq_true rfl, Nat.le_of_ble_eq_true rfl⟩ rfl rfl (Nat.le_of_ble_eq_true rfl) ⟨Nat.le_of_ble_eq_true rfl, Nat.le_of_ble_eq_true rfl⟩ rfl rfl dX7_readWord_21 rfl (fun v1369 M1370 P1371 => ?_)
            obtain ⟨rfl, rv1369, xv1369⟩ := P1371
            refine g_icmp_ge (n := 27) (tgt := 68) X dX7_readWord_24 (by decide) (by omega) (by omega) rfl (fun c1372 => ?_) (fun c1372 => ?_)
            · refine g_iload (n := 70) X 4 dX7_readWord_68 rfl rfl ?_
              refine g_aload_n (n := 71) X 3 dX7_readWord_70 rfl rfl rfl ?_
              obtain ⟨q1373, hq1373⟩ := gSO_at (z := v1174) (by omega)
              refine g_callSt (n := 74) (As := []) (rest := [gJ v1177]) (cs1 := 0) (ss1 := 0) X (v1174).toNat hq1373 (s_J_len v1174 (by omega)) okJ_len kw_3_235 ⟨kw_3_236, kw_3_237⟩ ⟨rfl, rfl⟩ ⟨Nat.le_of_ble_eq_true rfl, Nat.le_of_ble_eq_true rfl⟩ rfl rfl (Nat.le_of_ble_eq_true rfl) ⟨Nat.le_of_ble_eq_true rfl, Nat.le_of_ble_eq_true rfl⟩ rfl rfl dX7_readWord_71 rfl (fun v1374 M1375 P1376 => ?_)
              obtain ⟨rfl, rv1374, xv1374⟩ := P1376
              refine g_icmp_ne (n := 77) (tgt := 90) X dX7_readWord_74 (by decide) (by omega) (by omega) rfl (fun c1377 => ?_) (fun c1377 => ?_)
              · refine g_iload_n (n := 91) X 1 dX7_readWord_90 rfl rfl rfl ?_
                refine g_iload (n := 93) X 4 dX7_readWord_91 rfl rfl ?_
                refine g_mmax (n := 96) X kw_4_43 kw_3_153 kw_1_14 kw_3_154 (by omega) (by omega) (Nat.le_of_ble_eq_true rfl) (Nat.le_of_ble_eq_true rfl) (Nat.le_of_ble_eq_true rfl) (Nat.le_of_ble_eq_true rfl) dX7_readWord_93 rfl (fun x1378 hx1378 => ?_)
                have rx1378 : 0 ≤ x1378 ∧ x1378 ≤ 10 := by omega
                refine g_istore_n (n := 97) (L' := [(1, gJ x1378), (0, gA n0 159), (2, gJ v3), (3, .ref (cA (100 + (v1174).toNat))), (4, gJ v1177)]) X dX7_readWord_96 rfl (by decide) rfl rfl ?_
                refine g_iinc (n := 100) (w := v3 + 1) (L' := [(2, gJ (v3 + 1)), (1, gJ x1378), (0, gA n0 159), (3, .ref (cA (100 + (v1174).toNat))), (4, gJ v1177)]) X 2 dX7_readWord_97 rfl rfl (by decide) rfl rfl ?_
                refine g_goto (tgt := 4) X dX7_readWord_100 (by decide) ?_
                refine G.sub (L' := [(0, gA n0 159), (1, gJ x1378), (2, gJ (v3 + 1))]) [2, 1, 0] rfl ?_
                exact ih1169 x1378 (v3 + 1) (by omega) (by omega) (by omega) (by omega)
              · refine g_aload_n (n := 78) X 0 dX7_readWord_77 rfl rfl rfl ?_
                refine g_dup (n := 79) X dX7_readWord_78 rfl rfl ?_
                refine gg_7_2 (n := 82) (z := v1) X (by decide) (gsz hsz (by decide)) lay_159 kw_2_213 dX7_readWord_79 rfl hv1 ?_
                refine g_iload (n := 84) X 4 dX7_readWord_82 rfl rfl ?_
                refine g_iadd (n := 85) (z := v1 + v1177) X dX7_readWord_84 rfl rfl ?_
                refine gp_7_2 (n := 88) X (by decide) (gsz hsz (by decide)) lay_159 kw_2_213 dX7_readWord_85 rfl ?_
                refine G.nm (fun M1379 e1380 => ?_)
                have IM1379 : gI sz M1379 := gI.set I rc_159_2.1 (by omega) e1380
                have CM1379 : gC sz M1379 := gC.set C rc_159_2.2.1 e1380
                refine g_iload_n (n := 89) X 2 dX7_readWord_88 rfl rfl rfl ?_
                exact hq _ _ _ _ dX7_readWord_89 ⟨by omega, IM1379, CM1379, (gFr.s gFr.rf e1380 rc_159_2.2.2 rfl)⟩
            · refine g_aload_n (n := 28) X 0 dX7_readWord_27 rfl rfl rfl ?_
              refine gg_7_2 (n := 31) (z := v1) X (by decide) (gsz hsz (by decide)) lay_159 kw_2_213 dX7_readWord_28 rfl hv1 ?_
              refine g_iload (n := 33) X 4 dX7_readWord_31 rfl rfl ?_
              refine g_iadd (n := 34) (z := v1 + v1177) X dX7_readWord_33 rfl rfl ?_
              refine g_aload_n (n := 35) X 0 dX7_readWord_34 rfl rfl rfl ?_
              obtain ⟨v1381, hv1381, rv1381⟩ := gRd I (by decide) (gsz hsz (by decide)) rc_159_1.1
              refine gg_7_1 (n := 38) (z := v1381) X (by decide) (gsz hsz (by decide)) lay_159 kw_2_212 dX7_readWord_35 rfl hv1381 ?_
              refine g_icmp_ge (n := 41) (tgt := 68) X dX7_readWord_38 (by decide) (by omega) (by omega) rfl (fun c1382 => ?_) (fun c1382 => ?_)
              · refine g_iload (n := 70) X 4 dX7_readWord_68 rfl rfl ?_
                refine g_aload_n (n := 71) X 3 dX7_readWord_70 rfl rfl rfl ?_
                obtain ⟨q1383, hq1383⟩ := gSO_at (z := v1174) (by omega)
                refine g_callSt (n := 74) (As := []) (rest := [gJ v1177]) (cs1 := 0) (ss1 := 0) X (v1174).toNat hq1383 (s_J_len v1174 (by omega)) okJ_len kw_3_235 ⟨kw_3_236, kw_3_237⟩ ⟨rfl, rfl⟩ ⟨Nat.le_of_ble_eq_true rfl, Nat.le_of_ble_eq_true rfl⟩ rfl rfl (Nat.le_of_ble_eq_true rfl) ⟨Nat.le_of_ble_eq_true rfl, Nat.le_of_ble_eq_true rfl⟩ rfl rfl dX7_readWord_71 rfl (fun v1384 M1385 P1386 => ?_)
                obtain ⟨rfl, rv1384, xv1384⟩ := P1386
                refine g_icmp_ne (n := 77) (tgt := 90) X dX7_readWord_74 (by decide) (by omega) (by omega) rfl (fun c1387 => ?_) (fun c1387 => ?_)
                · refine g_iload_n (n := 91) X 1 dX7_readWord_90 rfl rfl rfl ?_
                  refine g_iload (n := 93) X 4 dX7_readWord_91 rfl rfl ?_
                  refine g_mmax (n := 96) X kw_4_43 kw_3_153 kw_1_14 kw_3_154 (by omega) (by omega) (Nat.le_of_ble_eq_true rfl) (Nat.le_of_ble_eq_true rfl) (Nat.le_of_ble_eq_true rfl) (Nat.le_of_ble_eq_true rfl) dX7_readWord_93 rfl (fun x1388 hx1388 => ?_)
                  have rx1388 : 0 ≤ x1388 ∧ x1388 ≤ 10 := by omega
                  refine g_istore_n (n := 97) (L' := [(1, gJ x1388), (0, gA n0 159), (2, gJ v3), (3, .ref (cA (100 + (v1174).toNat))), (4, gJ v1177)]) X dX7_readWord_96 rfl (by decide) rfl rfl ?_
                  refine g_iinc (n := 100) (w := v3 + 1) (L' := [(2, gJ (v3 + 1)), (1, gJ x1388), (0, gA n0 159), (3, .ref (cA (100 + (v1174).toNat))), (4, gJ v1177)]) X 2 dX7_readWord_97 rfl rfl (by decide) rfl rfl ?_
                  refine g_goto (tgt := 4) X dX7_readWord_100 (by decide) ?_
                  refine G.sub (L' := [(0, gA n0 159), (1, gJ x1388), (2, gJ (v3 + 1))]) [2, 1, 0] rfl ?_
                  exact ih1169 x1388 (v3 + 1) (by omega) (by omega) (by omega) (by omega)
                · refine g_aload_n (n := 78) X 0 dX7_readWord_77 rfl rfl rfl ?_
                  refine g_dup (n := 79) X dX7_readWord_78 rfl rfl ?_
                  refine gg_7_2 (n := 82) (z := v1) X (by decide) (gsz hsz (by decide)) lay_159 kw_2_213 dX7_readWord_79 rfl hv1 ?_
                  refine g_iload (n := 84) X 4 dX7_readWord_82 rfl rfl ?_
                  refine g_iadd (n := 85) (z := v1 + v1177) X dX7_readWord_84 rfl rfl ?_
                  refine gp_7_2 (n := 88) X (by decide) (gsz hsz (by decide)) lay_159 kw_2_213 dX7_readWord_85 rfl ?_
                  refine G.nm (fun M1389 e1390 => ?_)
                  have IM1389 : gI sz M1389 := gI.set I rc_159_2.1 (by omega) e1390
                  have CM1389 : gC sz M1389 := gC.set C rc_159_2.2.1 e1390
                  refine g_iload_n (n := 89) X 2 dX7_readWord_88 rfl rfl rfl ?_
                  exact hq _ _ _ _ dX7_readWord_89 ⟨by omega, IM1389, CM1389, (gFr.s gFr.rf e1390 rc_159_2.2.2 rfl)⟩
              · refine g_aload_n (n := 42) X 0 dX7_readWord_41 rfl rfl rfl ?_
                refine gg_7_0 (n := 45) (z := o + 1) X (by decide) (gsz hsz (by decide)) lay_159 kw_2_211 dX7_readWord_42 rfl ht (by omega) ?_
                refine g_aload_n (n := 46) X 0 dX7_readWord_45 rfl rfl rfl ?_
                refine gg_7_2 (n := 49) (z := v1) X (by decide) (gsz hsz (by decide)) lay_159 kw_2_213 dX7_readWord_46 rfl hv1 ?_
                refine g_iload (n := 51) X 4 dX7_readWord_49 rfl rfl ?_
                refine g_iadd (n := 52) (z := v1 + v1177) X dX7_readWord_51 rfl rfl ?_
                obtain ⟨v1391, hv1391, rv1391⟩ := gRd I (A1o0 r_o) (A1osz hsz r_o) (rAA_1 r_o (v1 + v1177)).1
                refine g_bald2 (n := 53) (v := v1391) X (A1o0 r_o) (A1osz hsz r_o) (lay2_A1 r_o) (by omega) (by omega) (by decide) dX7_readWord_52 rfl hv1391 ?_
                refine g_aload_n (n := 54) X 3 dX7_readWord_53 rfl rfl rfl ?_
                refine g_iload (n := 56) X 4 dX7_readWord_54 rfl rfl ?_
                obtain ⟨q1392, hq1392⟩ := gSO_at (z := v1174) (by omega)
                refine g_callSt (n := 59) (As := [gJ v1177]) (rest := [gJ v1391]) (cs1 := 0) (ss1 := 0) X (v1174).toNat hq1392 (s_J_chr v1174 (by omega) v1177 (by omega) (by omega)) okJ_chr kw_4_5 ⟨kw_4_6, kw_4_7⟩ ⟨rfl, rfl⟩ ⟨Nat.le_of_ble_eq_true rfl, Nat.le_of_ble_eq_true rfl⟩ rfl rfl (Nat.le_of_ble_eq_true rfl) ⟨Nat.le_of_ble_eq_true rfl, Nat.le_of_ble_eq_true rfl⟩ rfl rfl dX7_readWord_56 rfl (fun v1393 M1394 P1395 => ?_)
                obtain ⟨rfl, rv1393, xv1393⟩ := P1395
                refine g_icmp_ne (n := 62) (tgt := 68) X dX7_readWord_59 (by decide) (by omega) (by omega) rfl (fun c1396 => ?_) (fun c1396 => ?_)
                · refine g_iload (n := 70) X 4 dX7_readWord_68 rfl rfl ?_
                  refine g_aload_n (n := 71) X 3 dX7_readWord_70 rfl rfl rfl ?_
                  obtain ⟨q1397, hq1397⟩ := gSO_at (z := v1174) (by omega)
                  refine g_callSt (n := 74) (As := []) (rest := [gJ v1177]) (cs1 := 0) (ss1 := 0) X (v1174).toNat hq1397 (s_J_len v1174 (by omega)) okJ_len kw_3_235 ⟨kw_3_236, kw_3_237⟩ ⟨rfl, rfl⟩ ⟨Nat.le_of_ble_eq_true rfl, Nat.le_of_ble_eq_true rfl⟩ rfl rfl (Nat.le_of_ble_eq_true rfl) ⟨Nat.le_of_ble_eq_true rfl, Nat.le_of_ble_eq_true rfl⟩ rfl rfl dX7_readWord_71 rfl (fun v1398 M1399 P1400 => ?_)
                  obtain ⟨rfl, rv1398, xv1398⟩ := P1400
                  refine g_icmp_ne (n := 77) (tgt := 90) X dX7_readWord_74 (by decide) (by omega) (by omega) rfl (fun c1401 => ?_) (fun c1401 => ?_)
                  · refine g_iload_n (n := 91) X 1 dX7_readWord_90 rfl rfl rfl ?_
                    refine g_iload (n := 93) X 4 dX7_readWord_91 rfl rfl ?_
                    refine g_mmax (n := 96) X kw_4_43 kw_3_153 kw_1_14 kw_3_154 (by omega) (by omega) (Nat.le_of_ble_eq_true rfl) (Nat.le_of_ble_eq_true rfl) (Nat.le_of_ble_eq_true rfl) (Nat.le_of_ble_eq_true rfl) dX7_readWord_93 rfl (fun x1402 hx1402 => ?_)
                    have rx1402 : 0 ≤ x1402 ∧ x1402 ≤ 10 := by omega
                    refine g_istore_n (n := 97) (L' := [(1, gJ x1402), (0, gA n0 159), (2, gJ v3), (3, .ref (cA (100 + (v1174).toNat))), (4, gJ v1177)]) X dX7_readWord_96 rfl (by decide) rfl rfl ?_
                    refine g_iinc (n := 100) (w := v3 + 1) (L' := [(2, gJ (v3 + 1)), (1, gJ x1402), (0, gA n0 159), (3, .ref (cA (100 + (v1174).toNat))), (4, gJ v1177)]) X 2 dX7_readWord_97 rfl rfl (by decide) rfl rfl ?_
                    refine g_goto (tgt := 4) X dX7_readWord_100 (by decide) ?_
                    refine G.sub (L' := [(0, gA n0 159), (1, gJ x1402), (2, gJ (v3 + 1))]) [2, 1, 0] rfl ?_
                    exact ih1169 x1402 (v3 + 1) (by omega) (by omega) (by omega) (by omega)
                  · refine g_aload_n (n := 78) X 0 dX7_readWord_77 rfl rfl rfl ?_
                    refine g_dup (n := 79) X dX7_readWord_78 rfl rfl ?_
                    refine gg_7_2 (n := 82) (z := v1) X (by decide) (gsz hsz (by decide)) lay_159 kw_2_213 dX7_readWord_79 rfl hv1 ?_
                    refine g_iload (n := 84) X 4 dX7_readWord_82 rfl rfl ?_
                    refine g_iadd (n := 85) (z := v1 + v1177) X dX7_readWord_84 rfl rfl ?_
                    refine gp_7_2 (n := 88) X (by decide) (gsz hsz (by decide)) lay_159 kw_2_213 dX7_readWord_85 rfl ?_
                    refine G.nm (fun M1403 e1404 => ?_)
                    have IM1403 : gI sz M1403 := gI.set I rc_159_2.1 (by omega) e1404
                    have CM1403 : gC sz M1403 := gC.set C rc_159_2.2.1 e1404
                    refine g_iload_n (n := 89) X 2 dX7_readWord_88 rfl rfl rfl ?_
                    exact hq _ _ _ _ dX7_readWord_89 ⟨by omega, IM1403, CM1403, (gFr.s gFr.rf e1404 rc_159_2.2.2 rfl)⟩
                · refine g_iinc (n := 65) (w := v1177 + 1) (L' := [(4, gJ (v1177 + 1)), (0, gA n0 159), (1, gJ v2), (2, gJ v3), (3, .ref (cA (100 + (v1174).toNat)))]) X 4 dX7_readWord_62 rfl rfl (by decide) rfl rfl ?_
                  refine g_goto (tgt := 18) X dX7_readWord_65 (by decide) ?_
                  refine G.sub (L' := [(0, gA n0 159), (1, gJ v2), (2, gJ v3), (3, .ref (cA (100 + (v1174).toNat))), (4, gJ (v1177 + 1))]) [1, 2, 3, 4, 0] rfl ?_
                  exact ih1366 (v1177 + 1) (by omega) (by omega) (by omega)
        refine G.sub (L' := [(0, gA n0 159), (1, gJ v2), (2, gJ v3), (3, .ref (cA (100 + (v1174).toNat))), (4, gJ 0)]) [2, 3, 4, 1, 0] rfl ?_
        exact j1179 _ 0 (by omega) (by omega) (Nat.lt_succ_self _)
  refine G.sub (L' := [(0, gA n0 159), (1, gJ 0), (2, gJ 0)]) [2, 1, 0] rfl ?_
  exact j5 _ 0 0 (by omega) (by omega) (by omega) (Nat.lt_succ_self _)
theorem rc_159_3 : gRg 159 3 = (0, 6) ∧ gCr 159 3 = false ∧ gG 159 3 = 26 := by decide +kernel
theorem dX7_closeOne_0 : decode cX7_closeOne 0 = .ok (.aload_n 0, 1) := by decide +kernel
theorem dX7_closeOne_1 : decode cX7_closeOne 1 = .ok (.dup, 1) := by decide +kernel
theorem dX7_closeOne_2 : decode cX7_closeOne 2 = .ok (.getfield 105, 3) := by decide +kernel
theorem kw_2_215 : (Jvm.Cond.fieldLink "ParishUnion$Reader" (105 : Nat) "ParishUnion$Reader" "nots" "I") ∈ gT := gT_of (tb_2 _ (List.mem_of_getElem? (i := 215) rfl)) rfl
theorem rc_159_4 : gRg 159 4 = (-2147483648, 2147483647) ∧ gCr 159 4 = false ∧ gG 159 4 = 26 := by decide +kernel
theorem dX7_closeOne_5 : decode cX7_closeOne 5 = .ok (.iconst 1, 1) := by decide +kernel
theorem dX7_closeOne_6 : decode cX7_closeOne 6 = .ok (.ishr, 1) := by decide +kernel
theorem dX7_closeOne_7 : decode cX7_closeOne 7 = .ok (.putfield 105, 3) := by decide +kernel
theorem dX7_closeOne_10 : decode cX7_closeOne 10 = .ok (.aload_n 0, 1) := by decide +kernel
theorem dX7_closeOne_11 : decode cX7_closeOne 11 = .ok (.dup, 1) := by decide +kernel
theorem dX7_closeOne_12 : decode cX7_closeOne 12 = .ok (.getfield 102, 3) := by decide +kernel
theorem kw_2_214 : (Jvm.Cond.fieldLink "ParishUnion$Reader" (102 : Nat) "ParishUnion$Reader" "open" "I") ∈ gT := gT_of (tb_2 _ (List.mem_of_getElem? (i := 214) rfl)) rfl
theorem dX7_closeOne_15 : decode cX7_closeOne 15 = .ok (.iconst 1, 1) := by decide +kernel
theorem dX7_closeOne_16 : decode cX7_closeOne 16 = .ok (.isub, 1) := by decide +kernel
theorem dX7_closeOne_17 : decode cX7_closeOne 17 = .ok (.putfield 102, 3) := by decide +kernel
theorem dX7_closeOne_20 : decode cX7_closeOne 20 = .ok (.return_, 1) := by decide +kernel
abbrev R_X7_closeOne : Room := { frames := 0, cells := 0, slots := 0, locals := 0 }
set_option maxRecDepth 100000 in
set_option maxHeartbeats 4000000 in
theorem s_X7_closeOne {l : Launch} {n0 : Nat} {D : va_G} {cA : Nat → ClassId} {M : gM} (o : Int) (r_o : 87 ≤ o ∧ o ≤ 147 ∧ (o - 87) % 6 = 0) {sz : Nat} (hsz : 206 ≤ sz) (I : gI sz M) (C : gC sz M) (ht : M 159 0 = o + 1 + 1) (q_159_3 : 1 ≤ M 159 3 ∧ M 159 3 ≤ 6)  : Met l yX7_closeOne (gWsOf yX7_closeOne cX7_closeOne 1 (Option.none : Option Jvm.ClassFile.FieldType)) R_X7_closeOne (gPc n0 D cA [gA n0 159] M sz) (gQv n0 D cA sz (fun M1 => gI sz M1 ∧ gC sz M1 ∧ gFr 67108864 M M1)) 0 0 (fun q => n0 ≤ q) := by
  refine gMetV [gA n0 159] (by decide) (Nat.le_of_ble_eq_true rfl) ⟨rfl, rfl⟩ ?_
  intro p e s m args below meth cd Q X hq
  have X : gCx p s m args meth cd n0 D cA "ParishUnion$Reader" cX7_closeOne 1 := X
  show G p l e R_X7_closeOne s m args below meth cd n0 D cA 1 Q 0 0 M sz 0 [(0, gA n0 159)] []
  obtain ⟨v1, hv1, rv1⟩ := gRd I (by decide) (gsz hsz (by decide)) rc_159_3.1
  refine g_aload_n (n := 1) X 0 dX7_closeOne_0 rfl rfl rfl ?_
  refine g_dup (n := 2) X dX7_closeOne_1 rfl rfl ?_
  obtain ⟨v2, hv2, rv2⟩ := gRd I (by decide) (gsz hsz (by decide)) rc_159_4.1
  refine gg_7_4 (n := 5) (z := v2) X (by decide) (gsz hsz (by decide)) lay_159 kw_2_215 dX7_closeOne_2 rfl hv2 ?_
  refine g_iconst (n := 6) X dX7_closeOne_5 rfl ?_
  refine g_ishrA (n := 7) X dX7_closeOne_6 rfl (fun v3 rv3 xv3 => ?_)
  clear xv3
  refine gp_7_4 (n := 10) X (by decide) (gsz hsz (by decide)) lay_159 kw_2_215 dX7_closeOne_7 rfl ?_
  refine G.nm (fun M4 e5 => ?_)
  have IM4 : gI sz M4 := gI.set I rc_159_4.1 (by omega) e5
  have CM4 : gC sz M4 := gC.set C rc_159_4.2.1 e5
  refine g_aload_n (n := 11) X 0 dX7_closeOne_10 rfl rfl rfl ?_
  refine g_dup (n := 12) X dX7_closeOne_11 rfl rfl ?_
  refine gg_7_3 (n := 15) (z := v1) X (by decide) (gsz hsz (by decide)) lay_159 kw_2_214 dX7_closeOne_12 rfl ((congrFun (congrFun e5 _) _).trans ((gset_ne (by omega)).trans hv1)) ?_
  refine g_iconst (n := 16) X dX7_closeOne_15 rfl ?_
  refine g_isub (n := 17) (z := v1 - 1) X dX7_closeOne_16 (by omega) rfl ?_
  refine gp_7_3 (n := 20) X (by decide) (gsz hsz (by decide)) lay_159 kw_2_214 dX7_closeOne_17 rfl ?_
  refine G.nm (fun M6 e7 => ?_)
  have IM6 : gI sz M6 := gI.set IM4 rc_159_3.1 (by omega) e7
  have CM6 : gC sz M6 := gC.set CM4 rc_159_3.2.1 e7
  exact hq _ _ _ dX7_closeOne_20 ⟨IM6, CM6, (gFr.s (gFr.s gFr.rf e5 rc_159_4.2.2 rfl) e7 rc_159_3.2.2 rfl)⟩
theorem dX7_endNots_0 : decode cX7_endNots 0 = .ok (.iconst 0, 1) := by decide +kernel
theorem dX7_endNots_1 : decode cX7_endNots 1 = .ok (.istore_n 1, 1) := by decide +kernel
theorem dX7_endNots_2 : decode cX7_endNots 2 = .ok (.iload_n 1, 1) := by decide +kernel
theorem dX7_endNots_3 : decode cX7_endNots 3 = .ok (.bipush 6, 2) := by decide +kernel
theorem dX7_endNots_5 : decode cX7_endNots 5 = .ok (.if_icmp .ge 30, 3) := by decide +kernel
theorem dX7_endNots_8 : decode cX7_endNots 8 = .ok (.aload_n 0, 1) := by decide +kernel
theorem dX7_endNots_9 : decode cX7_endNots 9 = .ok (.getfield 102, 3) := by decide +kernel
theorem dX7_endNots_12 : decode cX7_endNots 12 = .ok (.ifCond .le 23, 3) := by decide +kernel
theorem dX7_endNots_35 : decode cX7_endNots 35 = .ok (.return_, 1) := by decide +kernel
theorem dX7_endNots_15 : decode cX7_endNots 15 = .ok (.aload_n 0, 1) := by decide +kernel
theorem dX7_endNots_16 : decode cX7_endNots 16 = .ok (.getfield 105, 3) := by decide +kernel
theorem dX7_endNots_19 : decode cX7_endNots 19 = .ok (.iconst 1, 1) := by decide +kernel
theorem dX7_endNots_20 : decode cX7_endNots 20 = .ok (.iand, 1) := by decide +kernel
theorem dX7_endNots_21 : decode cX7_endNots 21 = .ok (.iconst 1, 1) := by decide +kernel
theorem dX7_endNots_22 : decode cX7_endNots 22 = .ok (.if_icmp .ne 13, 3) := by decide +kernel
theorem dX7_endNots_25 : decode cX7_endNots 25 = .ok (.aload_n 0, 1) := by decide +kernel
theorem dX7_endNots_26 : decode cX7_endNots 26 = .ok (.invokevirtual 114, 3) := by decide +kernel
theorem kw_4_83 : (Jvm.Cond.methodLink "ParishUnion$Reader" (114 : Nat) ({ cls := "ParishUnion$Reader", name := "closeOne", desc := "()V" } : Jvm.MethodName)) ∈ gT := gT_of (tb_4 _ (List.mem_of_getElem? (i := 83) rfl)) rfl
theorem kw_4_86 : (Jvm.Cond.code ({ cls := "ParishUnion$Reader", name := "closeOne", desc := "()V" } : Jvm.MethodName) prog_9_method_9_code (1 : Nat) (Option.none : Option Jvm.ClassFile.FieldType)) ∈ gT := gT_of (tb_4 _ (List.mem_of_getElem? (i := 86) rfl)) rfl
theorem okX7_closeOne : gQok yX7_closeOne cX7_closeOne 1 (Option.none : Option Jvm.ClassFile.FieldType) 0 := ⟨kw_4_86, kw_1_12, by decide +kernel, by decide +kernel, by decide +kernel⟩
theorem kw_4_85 : (Jvm.Cond.instanceMethod ({ cls := "ParishUnion$Reader", name := "closeOne", desc := "()V" } : Jvm.MethodName)) ∈ gT := gT_of (tb_4 _ (List.mem_of_getElem? (i := 85) rfl)) rfl
theorem kw_0_16 : (Jvm.Cond.selects "ParishUnion$Reader" ({ cls := "ParishUnion$Reader", name := "closeOne", desc := "()V" } : Jvm.MethodName) ({ cls := "ParishUnion$Reader", name := "closeOne", desc := "()V" } : Jvm.MethodName)) ∈ gT := gT_of (tb_0 _ (List.mem_of_getElem? (i := 16) rfl)) rfl
theorem dX7_endNots_29 : decode cX7_endNots 29 = .ok (.iinc 1 1, 3) := by decide +kernel
theorem dX7_endNots_32 : decode cX7_endNots 32 = .ok (.goto (-30), 3) := by decide +kernel
abbrev R_X7_endNots : Room := { frames := 1, cells := 0, slots := 0, locals := 20 }
set_option maxRecDepth 100000 in
set_option maxHeartbeats 4000000 in
theorem s_X7_endNots {l : Launch} {n0 : Nat} {D : va_G} {cA : Nat → ClassId} {M : gM} (o : Int) (r_o : 87 ≤ o ∧ o ≤ 147 ∧ (o - 87) % 6 = 0) {sz : Nat} (hsz : 206 ≤ sz) (I : gI sz M) (C : gC sz M) (ht : M 159 0 = o + 1 + 1)  : Met l yX7_endNots (gWsOf yX7_endNots cX7_endNots 2 (Option.none : Option Jvm.ClassFile.FieldType)) R_X7_endNots (gPc n0 D cA [gA n0 159] M sz) (gQv n0 D cA sz (fun M1 => gI sz M1 ∧ gC sz M1 ∧ gFr 67108864 M M1)) 0 0 (fun q => n0 ≤ q) := by
  refine gMetV [gA n0 159] (by decide) (Nat.le_of_ble_eq_true rfl) ⟨rfl, rfl⟩ ?_
  intro p e s m args below meth cd Q X hq
  have X : gCx p s m args meth cd n0 D cA "ParishUnion$Reader" cX7_endNots 2 := X
  show G p l e R_X7_endNots s m args below meth cd n0 D cA 2 Q 0 0 M sz 0 [(0, gA n0 159)] []
  refine g_iconst (n := 1) X dX7_endNots_0 rfl ?_
  refine g_istore_n (n := 2) (L' := [(1, gJ 0), (0, gA n0 159)]) X dX7_endNots_1 rfl (by decide) rfl rfl ?_
  have j3 : ∀ (N49 : Nat) (v1 : Int) (M2 : gM) , (0 ≤ v1 ∧ v1 ≤ 6) → gI sz M2 → gC sz M2 → gFr 67108864 M M2 → (6 - v1).toNat < N49 → G p l e R_X7_endNots s m args below meth cd n0 D cA 2 Q 0 0 M2 sz 2 [(0, gA n0 159), (1, gJ v1)] [] := by
    intro N49; induction N49 with
    | zero => intro v1 M2 rv1 IM2 CM2 FM2 hm51; exfalso; omega
    | succ N49 ih50 =>
      intro v1 M2 rv1 IM2 CM2 FM2 hm51
      refine g_iload_n (n := 3) X 1 dX7_endNots_2 rfl rfl rfl ?_
      refine g_bipush (n := 5) X dX7_endNots_3 (by decide +kernel) rfl ?_
      refine g_icmp_ge (n := 8) (tgt := 35) X dX7_endNots_5 (by decide) (by omega) (by omega) rfl (fun c52 => ?_) (fun c52 => ?_)
      · exact hq _ _ _ dX7_endNots_35 ⟨IM2, CM2, (gFr.c gFr.rf FM2 rfl)⟩
      · refine g_aload_n (n := 9) X 0 dX7_endNots_8 rfl rfl rfl ?_
        obtain ⟨v53, hv53, rv53⟩ := gRd IM2 (by decide) (gsz hsz (by decide)) rc_159_3.1
        refine gg_7_3 (n := 12) (z := v53) X (by decide) (gsz hsz (by decide)) lay_159 kw_2_214 dX7_endNots_9 rfl hv53 ?_
        refine g_if_le (n := 15) (tgt := 35) X dX7_endNots_12 (by decide) (by omega) rfl (fun c54 => ?_) (fun c54 => ?_)
        · exact hq _ _ _ dX7_endNots_35 ⟨IM2, CM2, (gFr.c gFr.rf FM2 rfl)⟩
        · refine g_aload_n (n := 16) X 0 dX7_endNots_15 rfl rfl rfl ?_
          obtain ⟨v55, hv55, rv55⟩ := gRd IM2 (by decide) (gsz hsz (by decide)) rc_159_4.1
          refine gg_7_4 (n := 19) (z := v55) X (by decide) (gsz hsz (by decide)) lay_159 kw_2_215 dX7_endNots_16 rfl hv55 ?_
          refine g_iconst (n := 20) X dX7_endNots_19 rfl ?_
          refine g_iandC (n := 21) X dX7_endNots_20 (by decide) rfl (fun v56 rv56 xv56 => ?_)
          clear xv56
          refine g_iconst (n := 22) X dX7_endNots_21 rfl ?_
          refine g_icmp_ne (n := 25) (tgt := 35) X dX7_endNots_22 (by decide) (by omega) (by omega) rfl (fun c57 => ?_) (fun c57 => ?_)
          · exact hq _ _ _ dX7_endNots_35 ⟨IM2, CM2, (gFr.c gFr.rf FM2 rfl)⟩
          · refine g_aload_n (n := 26) X 0 dX7_endNots_25 rfl rfl rfl ?_
            refine g_callVv (n := 29) (As := []) (rest := []) (cs1 := 0) (ss1 := 0) X (s_X7_closeOne o r_o hsz IM2 CM2 ((gFr.at FM2 rc_159_0.2.2 rfl).trans ht) (by have := hv53; omega)) okX7_closeOne kw_4_83 ⟨kw_4_85, kw_0_16⟩ ⟨rfl, rfl⟩ ⟨Nat.le_of_ble_eq_true rfl, Nat.le_of_ble_eq_true rfl⟩ rfl (by decide) (gsz hsz (by decide)) lay_159 rfl rfl (Nat.le_of_ble_eq_true rfl) ⟨Nat.le_of_ble_eq_true rfl, Nat.le_of_ble_eq_true rfl⟩ rfl rfl dX7_endNots_26 rfl (fun M59 P60 => ?_)
            obtain ⟨IM59, CM59, FM59⟩ := P60
            refine g_iinc (n := 32) (w := v1 + 1) (L' := [(1, gJ (v1 + 1)), (0, gA n0 159)]) X 1 dX7_endNots_29 rfl rfl (by decide) rfl rfl ?_
            refine g_goto (tgt := 2) X dX7_endNots_32 (by decide) ?_
            refine G.sub (L' := [(0, gA n0 159), (1, gJ (v1 + 1))]) [1, 0] rfl ?_
            exact ih50 (v1 + 1) M59 (by omega) IM59 CM59 (gFr.c (gFr.c gFr.rf FM2 rfl) FM59 rfl) (by omega)
  refine G.sub (L' := [(0, gA n0 159), (1, gJ 0)]) [1, 0] rfl ?_
  exact j3 _ 0 M (by omega) I C gFr.rf (Nat.lt_succ_self _)
