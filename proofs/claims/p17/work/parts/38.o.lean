abbrev R_e_X11_tried : Room := { frames := 10, cells := 0, slots := 0, locals := 218 }
set_option maxRecDepth 100000 in
set_option maxHeartbeats 4000000 in
theorem e_X11_tried {l : Launch} {n0 : Nat} {D : va_G} {cA : Nat → ClassId} {M : gM} (a : Int) (r_a : -2147483648 ≤ a ∧ a ≤ 2147483647) (b : Int) (r_b : -2147483648 ≤ b ∧ b ≤ 2147483647) {sz : Nat} (hsz : 206 ≤ sz) (I : gI sz M) (C : gC sz M) (q_1_13 : 0 ≤ M 1 13 ∧ M 1 13 ≤ 10)  : Met l yX11_tried (gWsOf yX11_tried cX11_tried 6 (Option.some Jvm.ClassFile.FieldType.int)) R_e_X11_tried (gPc n0 D cA [gA n0 0, gJ a, gJ b] M sz) (gQi n0 D cA sz (fun z M1 => (-2147483648 ≤ z ∧ z ≤ 2147483647) ∧ gI sz M1 ∧ gC sz M1 ∧ gFr 4290902392 M M1 ∧ (gSm11 M M1 ∧ M1 1 13 = M 1 13 ∧ ((¬ ((0 ≤ a ∧ a ≤ 2) ∧ (0 ≤ b ∧ b ≤ 2) ∧ ¬ M 18 a = 0) ∧ M1 1 14 = M 1 14) ∨ (((0 ≤ a ∧ a ≤ 2) ∧ (0 ≤ b ∧ b ≤ 2) ∧ ¬ M 18 a = 0) ∧ 300 < M 1 15 + M 18 a ∧ M1 1 14 = M 1 14) ∨ (((0 ≤ a ∧ a ≤ 2) ∧ (0 ≤ b ∧ b ≤ 2) ∧ ¬ M 18 a = 0) ∧ M 1 15 + M 18 a ≤ 300 ∧ M1 1 14 = 0)) ∧ (∀ i : Int, 0 ≤ i → i ≤ 10 → ¬ i = M 1 13 → M1 (87 + 6 * i) 6 = M (87 + 6 * i) 6 ∧ (∀ k : Int, M1 (87 + 6 * i + 2) k = M (87 + 6 * i + 2) k))))) 0 0 (fun q => n0 ≤ q) := by
  refine gMetI [gA n0 0, gJ a, gJ b] (by decide) (Nat.le_of_ble_eq_true rfl) ⟨rfl, rfl⟩ ?_
  intro p e s m args below meth cd Q X hq
  have X : gCx p s m args meth cd n0 D cA "ParishUnion" cX11_tried 6 := X
  show G p l e R_e_X11_tried s m args below meth cd n0 D cA 6 Q 0 0 M sz 0 [(0, gA n0 0), (1, gJ a), (2, gJ b)] []
  obtain ⟨v1, hv1, rv1⟩ := gRd I (by decide) (gsz hsz (by decide)) rc_1_13.1
  obtain ⟨v2, hv2, rv2⟩ := gRd I (by decide) (gsz hsz (by decide)) rc_1_10.1
  obtain ⟨v3, hv3, rv3⟩ := gRd I (by decide) (gsz hsz (by decide)) rc_1_15.1
  obtain ⟨v4, hv4, rv4⟩ := gRd I (by decide) (gsz hsz (by decide)) rc_1_14.1
  refine g_iload_n (n := 1) X 1 dX11_tried_0 rfl rfl rfl ?_
  refine g_iconst (n := 2) X dX11_tried_1 rfl ?_
  refine g_iconst (n := 3) X dX11_tried_2 rfl ?_
  refine g_callSi (n := 6) (As := [gJ a, gJ 0, gJ 2]) (rest := []) (cs1 := 0) (ss1 := 0) X (s_X11_within a (by omega) 0 (by omega) 2 (by omega) hsz I C ) okX11_within kw_3_29 kw_3_30 ⟨rfl, rfl⟩ ⟨Nat.le_of_ble_eq_true rfl, Nat.le_of_ble_eq_true rfl⟩ rfl rfl (Nat.le_of_ble_eq_true rfl) ⟨Nat.le_of_ble_eq_true rfl, Nat.le_of_ble_eq_true rfl⟩ rfl rfl dX11_tried_3 rfl (fun v5 M6 P7 => ?_)
  obtain ⟨rfl, rv5, xv5⟩ := P7
  refine g_if_eq (n := 9) (tgt := 33) X dX11_tried_6 (by decide) (by omega) rfl (fun c8 => ?_) (fun c8 => ?_)
  · refine g_iconst (n := 34) X dX11_tried_33 rfl ?_
    exact hq _ _ _ _ dX11_tried_34 ⟨by omega, I, C, gFr.rf, ⟨gSm11.rf, rfl, (by have zb0 : M 1 14 = v4 := hv4; have ze1 : M 1 14 = v4 := hv4; have zb2 : M 1 15 = v3 := hv3; omega), (fun i i0 i1 hi => ⟨rfl, fun k => rfl⟩)⟩⟩
  · refine g_iload_n (n := 10) X 2 dX11_tried_9 rfl rfl rfl ?_
    refine g_iconst (n := 11) X dX11_tried_10 rfl ?_
    refine g_iconst (n := 12) X dX11_tried_11 rfl ?_
    refine g_callSi (n := 15) (As := [gJ b, gJ 0, gJ 2]) (rest := []) (cs1 := 0) (ss1 := 0) X (s_X11_within b (by omega) 0 (by omega) 2 (by omega) hsz I C ) okX11_within kw_3_29 kw_3_30 ⟨rfl, rfl⟩ ⟨Nat.le_of_ble_eq_true rfl, Nat.le_of_ble_eq_true rfl⟩ rfl rfl (Nat.le_of_ble_eq_true rfl) ⟨Nat.le_of_ble_eq_true rfl, Nat.le_of_ble_eq_true rfl⟩ rfl rfl dX11_tried_12 rfl (fun v9 M10 P11 => ?_)
    obtain ⟨rfl, rv9, xv9⟩ := P11
    refine g_if_eq (n := 18) (tgt := 33) X dX11_tried_15 (by decide) (by omega) rfl (fun c12 => ?_) (fun c12 => ?_)
    · refine g_iconst (n := 34) X dX11_tried_33 rfl ?_
      exact hq _ _ _ _ dX11_tried_34 ⟨by omega, I, C, gFr.rf, ⟨gSm11.rf, rfl, (by have zb0 : M 1 14 = v4 := hv4; have ze1 : M 1 14 = v4 := hv4; have zb2 : M 1 15 = v3 := hv3; omega), (fun i i0 i1 hi => ⟨rfl, fun k => rfl⟩)⟩⟩
    · refine g_aload_n (n := 19) X 0 dX11_tried_18 rfl rfl rfl ?_
      refine gg_11_0 (n := 22) (z := 1) X (by decide) (gsz hsz (by decide)) lay_0 kw_2_231 dX11_tried_19 rfl (rf_0_0 I (gsz hsz (by decide))) (by decide) ?_
      refine gg_9_6 (n := 25) (z := 15) X (by decide) (gsz hsz (by decide)) lay_1 kw_2_119 dX11_tried_22 rfl (rf_1_6 I (gsz hsz (by decide))) (by decide) ?_
      refine gg_2_2 (n := 28) (z := 18) X (by decide) (gsz hsz (by decide)) lay_15 kw_1_102 dX11_tried_25 rfl (rf_15_2 I (gsz hsz (by decide))) (by decide) ?_
      refine g_iload_n (n := 29) X 1 dX11_tried_28 rfl rfl rfl ?_
      obtain ⟨v13, hv13, rv13⟩ := gRd I (by decide) (gsz hsz (by decide)) (ra_18 a).1
      refine g_iald2 (n := 30) (v := v13) X (by decide) (gsz hsz (by decide)) lay_18 (by omega) (by omega) (by decide) dX11_tried_29 rfl hv13 ?_
      refine g_if_ne (n := 33) (tgt := 35) X dX11_tried_30 (by decide) (by omega) rfl (fun c14 => ?_) (fun c14 => ?_)
      · refine g_aload_n (n := 36) X 0 dX11_tried_35 rfl rfl rfl ?_
        refine g_iload_n (n := 37) X 1 dX11_tried_36 rfl rfl rfl ?_
        refine g_callVi (n := 40) (As := [gJ a]) (rest := []) (cs1 := 0) (ss1 := 0) X (s_X11_rowFits2 a (by omega) hsz I C ) okX11_rowFits kw_5_153 ⟨kw_5_155, kw_0_34⟩ ⟨rfl, rfl⟩ ⟨Nat.le_of_ble_eq_true rfl, Nat.le_of_ble_eq_true rfl⟩ rfl (by decide) (gsz hsz (by decide)) lay_0 rfl rfl (Nat.le_of_ble_eq_true rfl) ⟨Nat.le_of_ble_eq_true rfl, Nat.le_of_ble_eq_true rfl⟩ rfl rfl dX11_tried_37 rfl (fun v15 M16 P17 => ?_)
        obtain ⟨rfl, rv15, xv15⟩ := P17
        refine g_if_ne (n := 43) (tgt := 46) X dX11_tried_40 (by decide) (by omega) rfl (fun c18 => ?_) (fun c18 => ?_)
        · refine g_aload_n (n := 47) X 0 dX11_tried_46 rfl rfl rfl ?_
          refine g_aload_n (n := 48) X 0 dX11_tried_47 rfl rfl rfl ?_
          refine gg_11_0 (n := 51) (z := 1) X (by decide) (gsz hsz (by decide)) lay_0 kw_2_231 dX11_tried_48 rfl (rf_0_0 I (gsz hsz (by decide))) (by decide) ?_
          refine gg_9_15 (n := 54) (z := v3) X (by decide) (gsz hsz (by decide)) lay_1 kw_2_139 dX11_tried_51 rfl hv3 ?_
          refine g_callVi (n := 57) (As := [gJ v3]) (rest := []) (cs1 := 0) (ss1 := 0) X (e_X11_readTape v3 (by omega) hsz I C (by have := hv1; omega)) okX11_readTape kw_3_199 ⟨kw_3_201, kw_0_6⟩ ⟨rfl, rfl⟩ ⟨Nat.le_of_ble_eq_true rfl, Nat.le_of_ble_eq_true rfl⟩ rfl (by decide) (gsz hsz (by decide)) lay_0 rfl rfl (Nat.le_of_ble_eq_true rfl) ⟨Nat.le_of_ble_eq_true rfl, Nat.le_of_ble_eq_true rfl⟩ rfl rfl dX11_tried_54 rfl (fun v19 M20 P21 => ?_)
          obtain ⟨rv19, IM20, CM20, FM20, xM20⟩ := P21
          have xqM20 := And.intro xM20.1 (And.intro xM20.2.1 (And.intro xM20.2.2.1 trivial))
          clear xM20
          have xM20 := xqM20
          clear xqM20
          refine g_istore_n (n := 58) (L' := [(3, gJ v19), (0, gA n0 0), (1, gJ a), (2, gJ b)]) X dX11_tried_57 rfl (by decide) rfl rfl ?_
          refine g_iload_n (n := 59) X 0 dX11_tried_58 rfl rfl rfl ?_
          refine g_iconst (n := 60) X dX11_tried_59 rfl ?_
          refine g_icmp_eq (n := 63) (tgt := 68) X dX11_tried_60 (by decide) (by omega) (by omega) rfl (fun c22 => ?_) (fun c22 => ?_)
          · refine g_aload_n (n := 69) X 1 dX11_tried_68 rfl rfl rfl ?_
            refine gg_11_0 (n := 72) (z := 1) X (by decide) (gsz hsz (by decide)) lay_0 kw_2_231 dX11_tried_69 rfl (rf_0_0 IM20 (gsz hsz (by decide))) (by decide) ?_
            refine g_dup (n := 73) X dX11_tried_72 rfl rfl ?_
            refine gg_9_13 (n := 76) (z := v1) X (by decide) (gsz hsz (by decide)) lay_1 kw_2_135 dX11_tried_73 rfl ((gFr.at FM20 rc_1_13.2.2 rfl).trans hv1) ?_
            refine g_iconst (n := 77) X dX11_tried_76 rfl ?_
            refine g_iadd (n := 78) (z := v1 + 1) X dX11_tried_77 (by omega) rfl ?_
            refine gp_9_13 (n := 81) X (by decide) (gsz hsz (by decide)) lay_1 kw_2_135 dX11_tried_78 rfl ?_
            refine G.nm (fun M23 e24 => ?_)
            have IM23 : gI sz M23 := gI.set IM20 rc_1_13.1 (by omega) e24
            have CM23 : gC sz M23 := gC.set CM20 rc_1_13.2.1 e24
            refine g_aload_n (n := 82) X 1 dX11_tried_81 rfl rfl rfl ?_
            refine g_callVv (n := 85) (As := []) (rest := []) (cs1 := 0) (ss1 := 0) X (s_X11_findHomes  hsz IM23 CM23 ) okX11_findHomes kw_4_97 ⟨kw_4_99, kw_0_17⟩ ⟨rfl, rfl⟩ ⟨Nat.le_of_ble_eq_true rfl, Nat.le_of_ble_eq_true rfl⟩ rfl (by decide) (gsz hsz (by decide)) lay_0 rfl rfl (Nat.le_of_ble_eq_true rfl) ⟨Nat.le_of_ble_eq_true rfl, Nat.le_of_ble_eq_true rfl⟩ rfl rfl dX11_tried_82 rfl (fun M26 P27 => ?_)
            obtain ⟨IM26, CM26, FM26⟩ := P27
            refine g_aload_n (n := 86) X 1 dX11_tried_85 rfl rfl rfl ?_
            refine g_callVv (n := 89) (As := []) (rest := []) (cs1 := 0) (ss1 := 0) X (s_X11_rememberBefore  hsz IM26 CM26 ) okX11_rememberBefore kw_5_157 ⟨kw_5_159, kw_0_35⟩ ⟨rfl, rfl⟩ ⟨Nat.le_of_ble_eq_true rfl, Nat.le_of_ble_eq_true rfl⟩ rfl (by decide) (gsz hsz (by decide)) lay_0 rfl rfl (Nat.le_of_ble_eq_true rfl) ⟨Nat.le_of_ble_eq_true rfl, Nat.le_of_ble_eq_true rfl⟩ rfl rfl dX11_tried_86 rfl (fun M29 P30 => ?_)
            obtain ⟨IM29, CM29, FM29, xM29⟩ := P30
            have hBr := xM29
            have hFM := ((gFr.c (gFr.c (gFr.s (gFr.c gFr.rf FM20 rfl) e24 rc_1_13.2.2 rfl) FM26 rfl) FM29 rfl) : gFr 4273996096 M M29)
            have hNr : M29 1 10 ≤ 16 := by have q1 := ((gFr.at FM29 rc_1_10.2.2 rfl).trans ((gFr.at FM26 rc_1_10.2.2 rfl).trans ((congrFun (congrFun e24 _) _).trans ((gset_ne (by omega)).trans ((gFr.at FM20 rc_1_10.2.2 rfl).trans hv2))))); omega
            refine g_aload_n (n := 90) X 1 dX11_tried_89 rfl rfl rfl ?_
            refine gg_11_0 (n := 93) (z := 1) X (by decide) (gsz hsz (by decide)) lay_0 kw_2_231 dX11_tried_90 rfl (rf_0_0 IM29 (gsz hsz (by decide))) (by decide) ?_
            refine gg_9_15 (n := 96) (z := v3) X (by decide) (gsz hsz (by decide)) lay_1 kw_2_139 dX11_tried_93 rfl ((gFr.at FM29 rc_1_15.2.2 rfl).trans ((gFr.at FM26 rc_1_15.2.2 rfl).trans ((congrFun (congrFun e24 _) _).trans ((gset_ne (by omega)).trans ((gFr.at FM20 rc_1_15.2.2 rfl).trans hv3))))) ?_
            refine g_istore (n := 98) (L' := [(4, gJ v3), (3, gJ v19), (0, gA n0 0), (1, gJ a), (2, gJ b)]) X dX11_tried_96 (by decide) rfl rfl ?_
            refine g_aload_n (n := 99) X 2 dX11_tried_98 rfl rfl rfl ?_
            refine gg_11_0 (n := 102) (z := 1) X (by decide) (gsz hsz (by decide)) lay_0 kw_2_231 dX11_tried_99 rfl (rf_0_0 IM29 (gsz hsz (by decide))) (by decide) ?_
            refine gg_9_6 (n := 105) (z := 15) X (by decide) (gsz hsz (by decide)) lay_1 kw_2_119 dX11_tried_102 rfl (rf_1_6 IM29 (gsz hsz (by decide))) (by decide) ?_
            refine g_iload_n (n := 106) X 3 dX11_tried_105 rfl rfl rfl ?_
            refine g_iload (n := 108) X 0 dX11_tried_106 rfl rfl ?_
            refine g_callVv (n := 111) (As := [gJ a, gJ v3]) (rest := []) (cs1 := 0) (ss1 := 0) X (s_X2_tellRow a (by omega) v3 (by omega) hsz IM29 CM29 ) okX2_tellRow kw_5_184 ⟨kw_5_185, kw_5_186⟩ ⟨rfl, rfl⟩ ⟨Nat.le_of_ble_eq_true rfl, Nat.le_of_ble_eq_true rfl⟩ rfl (by decide) (gsz hsz (by decide)) lay_15 rfl rfl (Nat.le_of_ble_eq_true rfl) ⟨Nat.le_of_ble_eq_true rfl, Nat.le_of_ble_eq_true rfl⟩ rfl rfl dX11_tried_108 rfl (fun M32 P33 => ?_)
            obtain ⟨IM32, CM32, FM32⟩ := P33
            refine g_aload_n (n := 112) X 2 dX11_tried_111 rfl rfl rfl ?_
            refine gg_11_0 (n := 115) (z := 1) X (by decide) (gsz hsz (by decide)) lay_0 kw_2_231 dX11_tried_112 rfl (rf_0_0 IM32 (gsz hsz (by decide))) (by decide) ?_
            refine g_aload_n (n := 116) X 2 dX11_tried_115 rfl rfl rfl ?_
            refine gg_11_0 (n := 119) (z := 1) X (by decide) (gsz hsz (by decide)) lay_0 kw_2_231 dX11_tried_116 rfl (rf_0_0 IM32 (gsz hsz (by decide))) (by decide) ?_
            refine gg_9_6 (n := 122) (z := 15) X (by decide) (gsz hsz (by decide)) lay_1 kw_2_119 dX11_tried_119 rfl (rf_1_6 IM32 (gsz hsz (by decide))) (by decide) ?_
            refine gg_2_2 (n := 125) (z := 18) X (by decide) (gsz hsz (by decide)) lay_15 kw_1_102 dX11_tried_122 rfl (rf_15_2 IM32 (gsz hsz (by decide))) (by decide) ?_
            refine g_iload_n (n := 126) X 3 dX11_tried_125 rfl rfl rfl ?_
            refine g_iald2 (n := 127) (v := v13) X (by decide) (gsz hsz (by decide)) lay_18 (by omega) (by omega) (by decide) dX11_tried_126 rfl ((gFr.at FM32 (ra_18 a).2.2 rfl).trans ((gFr.at FM29 (ra_18 a).2.2 rfl).trans ((gFr.at FM26 (ra_18 a).2.2 rfl).trans ((congrFun (congrFun e24 _) _).trans ((gset_ne (by omega)).trans ((gFr.at FM20 (ra_18 a).2.2 rfl).trans hv13)))))) ?_
            have tM32_15 : M32 1 15 = v3 := ((gFr.at FM32 rc_1_15.2.2 rfl).trans ((gFr.at FM29 rc_1_15.2.2 rfl).trans ((gFr.at FM26 rc_1_15.2.2 rfl).trans ((congrFun (congrFun e24 _) _).trans ((gset_ne (by omega)).trans ((gFr.at FM20 rc_1_15.2.2 rfl).trans hv3))))))
            refine g_callVv (n := 130) (As := [gJ v13]) (rest := []) (cs1 := 0) (ss1 := 0) X (s_X9_goBy v13 (by omega) hsz IM32 CM32 ) okX9_goBy kw_4_185 ⟨kw_4_186, kw_4_187⟩ ⟨rfl, rfl⟩ ⟨Nat.le_of_ble_eq_true rfl, Nat.le_of_ble_eq_true rfl⟩ rfl (by decide) (gsz hsz (by decide)) lay_1 rfl rfl (Nat.le_of_ble_eq_true rfl) ⟨Nat.le_of_ble_eq_true rfl, Nat.le_of_ble_eq_true rfl⟩ rfl rfl dX11_tried_127 rfl (fun M35 P36 => ?_)
            obtain ⟨IM35, CM35, FM35, xM35⟩ := P36
            refine g_aload_n (n := 131) X 2 dX11_tried_130 rfl rfl rfl ?_
            refine g_iload (n := 133) X 0 dX11_tried_131 rfl rfl ?_
            refine g_iload_n (n := 134) X 4 dX11_tried_133 rfl rfl rfl ?_
            refine g_callVi (n := 137) (As := [gJ v3, gJ b]) (rest := []) (cs1 := 0) (ss1 := 0) X (s_X11_sumOfTry v3 (by omega) b (by omega) hsz IM35 CM35 ) okX11_sumOfTry kw_5_196 ⟨kw_5_198, kw_0_38⟩ ⟨rfl, rfl⟩ ⟨Nat.le_of_ble_eq_true rfl, Nat.le_of_ble_eq_true rfl⟩ rfl (by decide) (gsz hsz (by decide)) lay_0 rfl rfl (Nat.le_of_ble_eq_true rfl) ⟨Nat.le_of_ble_eq_true rfl, Nat.le_of_ble_eq_true rfl⟩ rfl rfl dX11_tried_134 rfl (fun v37 M38 P39 => ?_)
            obtain ⟨rfl, rv37⟩ := P39
            refine g_istore (n := 139) (L' := [(5, gJ v37), (4, gJ v3), (3, gJ v19), (0, gA n0 0), (1, gJ a), (2, gJ b)]) X dX11_tried_137 (by decide) rfl rfl ?_
            refine g_aload_n (n := 140) X 3 dX11_tried_139 rfl rfl rfl ?_
            refine g_iload (n := 142) X 1 dX11_tried_140 rfl rfl ?_
            refine g_callVv (n := 145) (As := [gJ v3]) (rest := []) (cs1 := 0) (ss1 := 0) X (s_X11_bringBack v3 (by omega) hsz IM35 CM35 ) okX11_bringBack kw_5_188 ⟨kw_5_190, kw_0_37⟩ ⟨rfl, rfl⟩ ⟨Nat.le_of_ble_eq_true rfl, Nat.le_of_ble_eq_true rfl⟩ rfl (by decide) (gsz hsz (by decide)) lay_0 rfl rfl (Nat.le_of_ble_eq_true rfl) ⟨Nat.le_of_ble_eq_true rfl, Nat.le_of_ble_eq_true rfl⟩ rfl rfl dX11_tried_142 rfl (fun M41 P42 => ?_)
            obtain ⟨IM41, CM41, FM41, xM41⟩ := P42
            refine g_aload_n (n := 146) X 3 dX11_tried_145 rfl rfl rfl ?_
            refine gg_11_0 (n := 149) (z := 1) X (by decide) (gsz hsz (by decide)) lay_0 kw_2_231 dX11_tried_146 rfl (rf_0_0 IM41 (gsz hsz (by decide))) (by decide) ?_
            refine g_dup (n := 150) X dX11_tried_149 rfl rfl ?_
            refine gg_9_13 (n := 153) (z := v1 + 1) X (by decide) (gsz hsz (by decide)) lay_1 kw_2_135 dX11_tried_150 rfl ((gFr.at FM41 rc_1_13.2.2 rfl).trans ((gFr.at FM35 rc_1_13.2.2 rfl).trans ((gFr.at FM32 rc_1_13.2.2 rfl).trans ((gFr.at FM29 rc_1_13.2.2 rfl).trans ((gFr.at FM26 rc_1_13.2.2 rfl).trans ((congrFun (congrFun e24 _) _).trans (gset_eq _ _ _ _))))))) ?_
            refine g_iconst (n := 154) X dX11_tried_153 rfl ?_
            refine g_isub (n := 155) (z := v1) X dX11_tried_154 (by omega) rfl ?_
            refine gp_9_13 (n := 158) X (by decide) (gsz hsz (by decide)) lay_1 kw_2_135 dX11_tried_155 rfl ?_
            refine G.nm (fun M43 e44 => ?_)
            have IM43 : gI sz M43 := gI.set IM41 rc_1_13.1 (by omega) e44
            have CM43 : gC sz M43 := gC.set CM41 rc_1_13.2.1 e44
            refine g_iload (n := 160) X 0 dX11_tried_158 rfl rfl ?_
            exact hq _ _ _ _ dX11_tried_160 ⟨by omega, IM43, CM43, (gFr.s (gFr.c (gFr.c (gFr.c (gFr.c (gFr.c (gFr.s (gFr.c gFr.rf FM20 rfl) e24 rc_1_13.2.2 rfl) FM26 rfl) FM29 rfl) FM32 rfl) FM35 rfl) FM41 rfl) e44 rc_1_13.2.2 rfl), ⟨gSm11.of (by omega) hFM rfl (gSm.acts (⟨(fun i k h0 h1 hk => (xM41.1 i k h0 (by rw [(gFr.at ((gFr.c (gFr.c gFr.rf FM32 rfl) FM35 rfl) : gFr 16848976 M29 M35) rc_1_10.2.2 rfl)]; exact h1) hk).trans ((gFr.Q ((gFr.c (gFr.c gFr.rf FM32 rfl) FM35 rfl) : gFr 16848976 M29 M35) rfl (by omega) k).trans (hBr.1 i k h0 h1 hk))), (fun b h0 h1 => (xM41.2.1 b h0 h1).trans ((gFr.at ((gFr.c (gFr.c gFr.rf FM32 rfl) FM35 rfl) : gFr 16848976 M29 M35) (ra_163 b).2.2 rfl).trans (hBr.2.1 b h0 h1))), (fun b h0 h1 => (xM41.2.2.1 b h0 h1).trans ((gFr.at ((gFr.c (gFr.c gFr.rf FM32 rfl) FM35 rfl) : gFr 16848976 M29 M35) (ra_164 b).2.2 rfl).trans (hBr.2.2.1 b h0 h1))), (fun b h0 h1 => (xM41.2.2.2.1 b h0 h1).trans ((gFr.at ((gFr.c (gFr.c gFr.rf FM32 rfl) FM35 rfl) : gFr 16848976 M29 M35) (ra_165 b).2.2 rfl).trans (hBr.2.2.2.1 b h0 h1))), (fun b h0 h1 => (xM41.2.2.2.2.1 b h0 h1).trans ((gFr.at ((gFr.c (gFr.c gFr.rf FM32 rfl) FM35 rfl) : gFr 16848976 M29 M35) (ra_166 b).2.2 rfl).trans (hBr.2.2.2.2.1 b h0 h1))), (fun b h0 h1 => (xM41.2.2.2.2.2.1 b h0 h1).trans ((gFr.at ((gFr.c (gFr.c gFr.rf FM32 rfl) FM35 rfl) : gFr 16848976 M29 M35) (ra_167 b).2.2 rfl).trans (hBr.2.2.2.2.2.1 b h0 h1))), (fun b h0 h1 => (xM41.2.2.2.2.2.2.1 b h0 h1).trans ((gFr.at ((gFr.c (gFr.c gFr.rf FM32 rfl) FM35 rfl) : gFr 16848976 M29 M35) (ra_168 b).2.2 rfl).trans (hBr.2.2.2.2.2.2.1 b h0 h1))), (fun b h0 h1 => (xM41.2.2.2.2.2.2.2.1 b h0 h1).trans ((gFr.at ((gFr.c (gFr.c gFr.rf FM32 rfl) FM35 rfl) : gFr 16848976 M29 M35) (ra_169 b).2.2 rfl).trans (hBr.2.2.2.2.2.2.2.1 b h0 h1))), (xM41.2.2.2.2.2.2.2.2.1.trans ((gFr.at ((gFr.c (gFr.c gFr.rf FM32 rfl) FM35 rfl) : gFr 16848976 M29 M35) rc_162_7.2.2 rfl).trans hBr.2.2.2.2.2.2.2.2.1)), (xM41.2.2.2.2.2.2.2.2.2.1.trans ((gFr.at ((gFr.c (gFr.c gFr.rf FM32 rfl) FM35 rfl) : gFr 16848976 M29 M35) rc_162_8.2.2 rfl).trans hBr.2.2.2.2.2.2.2.2.2.1)), (xM41.2.2.2.2.2.2.2.2.2.2.1.trans ((gFr.at ((gFr.c (gFr.c gFr.rf FM32 rfl) FM35 rfl) : gFr 16848976 M29 M35) rc_162_9.2.2 rfl).trans hBr.2.2.2.2.2.2.2.2.2.2)), (xM41.2.2.2.2.2.2.2.2.2.2.2.trans ((gFr.at FM29 rc_1_15.2.2 rfl).trans ((gFr.at FM26 rc_1_15.2.2 rfl).trans ((congrFun (congrFun e24 _) _).trans ((gset_ne (by omega)).trans ((gFr.at FM20 rc_1_15.2.2 rfl).trans hv3))))).symm)⟩ : gSm M29 M41) e44), by have q1 := ((congrFun (congrFun e44 _) _).trans (gset_eq _ _ _ _)); omega, (by have zb0 : M 1 14 = v4 := hv4; have ze1 : M43 1 14 = 0 := ((congrFun (congrFun e44 _) _).trans ((gset_ne (by omega)).trans ((gFr.at FM41 rc_1_14.2.2 rfl).trans ((gFr.at FM35 rc_1_14.2.2 rfl).trans ((gFr.at FM32 rc_1_14.2.2 rfl).trans ((gFr.at FM29 rc_1_14.2.2 rfl).trans ((gFr.at FM26 rc_1_14.2.2 rfl).trans ((congrFun (congrFun e24 _) _).trans ((gset_ne (by omega)).trans xM20.1.2))))))))); have zb2 : M 1 15 = v3 := hv3; have zb3 : M 18 a = v13 := hv13; omega), (fun i i0 i1 hi => ⟨(((congrFun (congrFun e44 _) _).trans (gset_ne (by omega))).trans ((gFr.at FM41 (rA_6 (o := 87 + 6 * i) (by omega)).2.2 rfl).trans ((gFr.at FM35 (rA_6 (o := 87 + 6 * i) (by omega)).2.2 rfl).trans ((gFr.at FM32 (rA_6 (o := 87 + 6 * i) (by omega)).2.2 rfl).trans ((gFr.at FM29 (rA_6 (o := 87 + 6 * i) (by omega)).2.2 rfl).trans ((gFr.at FM26 (rA_6 (o := 87 + 6 * i) (by omega)).2.2 rfl).trans (((congrFun (congrFun e24 _) _).trans (gset_ne (by omega))).trans ((xM20.2.2.1 i i0 i1 hi).1.trans rfl)))))))), fun k => (((congrFun (congrFun e44 _) _).trans (gset_ne (by omega))).trans ((gFr.at FM41 (rAA_2 (o := 87 + 6 * i) (by omega) k).2.2 rfl).trans ((gFr.at FM35 (rAA_2 (o := 87 + 6 * i) (by omega) k).2.2 rfl).trans ((gFr.at FM32 (rAA_2 (o := 87 + 6 * i) (by omega) k).2.2 rfl).trans ((gFr.at FM29 (rAA_2 (o := 87 + 6 * i) (by omega) k).2.2 rfl).trans ((gFr.at FM26 (rAA_2 (o := 87 + 6 * i) (by omega) k).2.2 rfl).trans (((congrFun (congrFun e24 _) _).trans (gset_ne (by omega))).trans (((xM20.2.2.1 i i0 i1 hi).2 k).trans rfl))))))))⟩)⟩⟩
          · refine g_bipush (n := 65) X dX11_tried_63 (by decide +kernel) rfl ?_
            refine g_iload_n (n := 66) X 0 dX11_tried_65 rfl rfl rfl ?_
            refine g_isub (n := 67) (z := (-10) - v19) X dX11_tried_66 rfl rfl ?_
            exact hq _ _ _ _ dX11_tried_67 ⟨by omega, IM20, CM20, (gFr.c gFr.rf FM20 rfl), ⟨gSm11.of (by omega) ((gFr.c gFr.rf FM20 rfl) : gFr 1015021824 M M20) rfl gSm.rf, by have q1 := ((gFr.at FM20 rc_1_13.2.2 rfl).trans hv1); omega, (by have zb0 : M 1 14 = v4 := hv4; have ze1 : M20 1 14 = 0 := xM20.1.2; have zb2 : M 1 15 = v3 := hv3; have zb3 : M 18 a = v13 := hv13; omega), (fun i i0 i1 hi => ⟨((xM20.2.2.1 i i0 i1 hi).1.trans rfl), fun k => (((xM20.2.2.1 i i0 i1 hi).2 k).trans rfl)⟩)⟩⟩
        · refine g_bipush (n := 45) X dX11_tried_43 (by decide +kernel) rfl ?_
          exact hq _ _ _ _ dX11_tried_45 ⟨by omega, I, C, gFr.rf, ⟨gSm11.rf, rfl, (by have zb0 : M 1 14 = v4 := hv4; have ze1 : M 1 14 = v4 := hv4; have zb2 : M 1 15 = v3 := hv3; have zb3 : M 18 a = v13 := hv13; omega), (fun i i0 i1 hi => ⟨rfl, fun k => rfl⟩)⟩⟩
      · refine g_iconst (n := 34) X dX11_tried_33 rfl ?_
        exact hq _ _ _ _ dX11_tried_34 ⟨by omega, I, C, gFr.rf, ⟨gSm11.rf, rfl, (by have zb0 : M 1 14 = v4 := hv4; have ze1 : M 1 14 = v4 := hv4; have zb2 : M 1 15 = v3 := hv3; have zb3 : M 18 a = v13 := hv13; omega), (fun i i0 i1 hi => ⟨rfl, fun k => rfl⟩)⟩⟩
