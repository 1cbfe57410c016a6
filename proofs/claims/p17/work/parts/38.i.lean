abbrev R_e_X11_readTape : Room := { frames := 9, cells := 0, slots := 0, locals := 196 }
set_option maxRecDepth 100000 in
set_option maxHeartbeats 4000000 in
theorem e_X11_readTape {l : Launch} {n0 : Nat} {D : va_G} {cA : Nat → ClassId} {M : gM} (a : Int) (r_a : 0 ≤ a ∧ a ≤ 300) {sz : Nat} (hsz : 206 ≤ sz) (I : gI sz M) (C : gC sz M) (q_1_13 : 0 ≤ M 1 13 ∧ M 1 13 ≤ 10)  : Met l yX11_readTape (gWsOf yX11_readTape cX11_readTape 3 (Option.some Jvm.ClassFile.FieldType.int)) R_e_X11_readTape (gPc n0 D cA [gA n0 0, gJ a] M sz) (gQi n0 D cA sz (fun z M1 => (-1 ≤ z ∧ z ≤ 150) ∧ gI sz M1 ∧ gC sz M1 ∧ gFr 1015021824 M M1 ∧ ((z = gAct (gTt M) (M 1 14) 8 0 ∧ M1 1 14 = 0) ∧ M1 (87 + 6 * M 1 13) 6 = a ∧ (∀ i : Int, 0 ≤ i → i ≤ 10 → ¬ i = M 1 13 → M1 (87 + 6 * i) 6 = M (87 + 6 * i) 6 ∧ (∀ k : Int, M1 (87 + 6 * i + 2) k = M (87 + 6 * i + 2) k)) ∧ (z = -1 → (∃ m : Nat, m ≤ 8 ∧ gFin (gTt M) (M 1 14) m ∧ (∀ k : Int, 0 ≤ k → k ≤ 9 → M1 (87 + 6 * M 1 13 + 2) k = gSy (gTt M) k m)))))) 0 0 (fun q => n0 ≤ q) := by
  refine gMetI [gA n0 0, gJ a] (by decide) (Nat.le_of_ble_eq_true rfl) ⟨rfl, rfl⟩ ?_
  intro p e s m args below meth cd Q X hq
  have X : gCx p s m args meth cd n0 D cA "ParishUnion" cX11_readTape 3 := X
  show G p l e R_e_X11_readTape s m args below meth cd n0 D cA 3 Q 0 0 M sz 0 [(0, gA n0 0), (1, gJ a)] []
  obtain ⟨v1, hv1, rv1⟩ := gRd I (by decide) (gsz hsz (by decide)) rc_1_13.1
  obtain ⟨v2, hv2, rv2⟩ := gRd I (by decide) (gsz hsz (by decide)) rc_1_14.1
  refine g_aload_n (n := 1) X 0 dX11_readTape_0 rfl rfl rfl ?_
  refine gg_11_0 (n := 4) (z := 1) X (by decide) (gsz hsz (by decide)) lay_0 kw_2_231 dX11_readTape_1 rfl (rf_0_0 I (gsz hsz (by decide))) (by decide) ?_
  refine gg_9_3 (n := 7) (z := 7) X (by decide) (gsz hsz (by decide)) lay_1 kw_2_113 dX11_readTape_4 rfl (rf_1_3 I (gsz hsz (by decide))) (by decide) ?_
  refine g_aload_n (n := 8) X 0 dX11_readTape_7 rfl rfl rfl ?_
  refine gg_11_0 (n := 11) (z := 1) X (by decide) (gsz hsz (by decide)) lay_0 kw_2_231 dX11_readTape_8 rfl (rf_0_0 I (gsz hsz (by decide))) (by decide) ?_
  refine gg_9_13 (n := 14) (z := v1) X (by decide) (gsz hsz (by decide)) lay_1 kw_2_135 dX11_readTape_11 rfl hv1 ?_
  obtain ⟨o3, ho3, ro3⟩ : ∃ o : Int, o = 87 + 6 * v1 ∧ (87 ≤ o ∧ o ≤ 147 ∧ (o - 87) % 6 = 0) := ⟨_, rfl, by omega⟩
  refine g_aald5 (n := 15) (t := o3) X (by decide) (gsz hsz (by decide)) lay_7 (by omega) (by omega) (by decide) (gA7 I hsz (by omega) (by omega) (by omega)) (by omega) dX11_readTape_14 rfl ?_
  refine g_astore_n (n := 16) (L' := [(2, gA n0 o3), (0, gA n0 0), (1, gJ a)]) X dX11_readTape_15 rfl (by decide) rfl rfl ?_
  refine g_aload_n (n := 17) X 0 dX11_readTape_16 rfl rfl rfl ?_
  refine g_aload_n (n := 18) X 1 dX11_readTape_17 rfl rfl rfl ?_
  refine gg_11_0 (n := 21) (z := 1) X (by decide) (gsz hsz (by decide)) lay_0 kw_2_231 dX11_readTape_18 rfl (rf_0_0 I (gsz hsz (by decide))) (by decide) ?_
  refine gg_9_4 (n := 24) (z := 8) X (by decide) (gsz hsz (by decide)) lay_1 kw_2_115 dX11_readTape_21 rfl (rf_1_4 I (gsz hsz (by decide))) (by decide) ?_
  refine g_aload_n (n := 25) X 1 dX11_readTape_24 rfl rfl rfl ?_
  refine gg_11_0 (n := 28) (z := 1) X (by decide) (gsz hsz (by decide)) lay_0 kw_2_231 dX11_readTape_25 rfl (rf_0_0 I (gsz hsz (by decide))) (by decide) ?_
  refine gg_9_14 (n := 31) (z := v2) X (by decide) (gsz hsz (by decide)) lay_1 kw_2_137 dX11_readTape_28 rfl hv2 ?_
  refine g_iload_n (n := 32) X 2 dX11_readTape_31 rfl rfl rfl ?_
  refine g_callVv (n := 35) (As := [gA n0 8, gJ v2, gJ a]) (rest := []) (cs1 := 0) (ss1 := 0) X (e_X0_begin o3 ro3 v2 (by omega) a (by omega) hsz I C ) okX0_begin kw_3_203 ⟨kw_3_204, kw_3_205⟩ ⟨rfl, rfl⟩ ⟨Nat.le_of_ble_eq_true rfl, Nat.le_of_ble_eq_true rfl⟩ rfl (Ao0 ro3) (Aosz hsz ro3) (lay2_A ro3) rfl rfl (Nat.le_of_ble_eq_true rfl) ⟨Nat.le_of_ble_eq_true rfl, Nat.le_of_ble_eq_true rfl⟩ rfl rfl dX11_readTape_32 rfl (fun M5 P6 => ?_)
  obtain ⟨IM5, CM5, FM5, xM5⟩ := P6
  refine g_aload_n (n := 36) X 1 dX11_readTape_35 rfl rfl rfl ?_
  refine gg_11_0 (n := 39) (z := 1) X (by decide) (gsz hsz (by decide)) lay_0 kw_2_231 dX11_readTape_36 rfl (rf_0_0 IM5 (gsz hsz (by decide))) (by decide) ?_
  refine g_iconst (n := 40) X dX11_readTape_39 rfl ?_
  refine gp_9_14 (n := 43) X (by decide) (gsz hsz (by decide)) lay_1 kw_2_137 dX11_readTape_40 rfl ?_
  refine G.nm (fun M7 e8 => ?_)
  have IM7 : gI sz M7 := gI.set IM5 rc_1_14.1 (by omega) e8
  have CM7 : gC sz M7 := gC.set CM5 rc_1_14.2.1 e8
  refine g_aload_n (n := 44) X 1 dX11_readTape_43 rfl rfl rfl ?_
  refine gg_11_2 (n := 47) (z := 159) X (by decide) (gsz hsz (by decide)) lay_0 kw_2_233 dX11_readTape_44 rfl (rf_0_2 IM7 (gsz hsz (by decide))) (by decide) ?_
  refine g_aload_n (n := 48) X 0 dX11_readTape_47 rfl rfl rfl ?_
  refine g_callVi (n := 51) (As := [gA n0 o3]) (rest := []) (cs1 := 0) (ss1 := 0) X (e_X7_read o3 ro3 hsz IM7 CM7 (gTt M) (gTa_of (show M7 o3 5 = v2 from ((congrFun (congrFun e8 _) _).trans ((gset_ne (by omega)).trans xM5.1.1))) hv2 (fun i h0 h1 => ((congrFun (congrFun e8 _) _).trans (gset_ne (by omega))).trans (xM5.1.2 i h0 h1))) ((congrFun (congrFun e8 _) _).trans ((gset_ne (by omega)).trans xM5.2.1)) (fun k k0 k1 => (congrFun (congrFun e8 _) _).trans ((gset_ne (by omega)).trans (xM5.2.2.1 k k0 k1)))) okX7_read kw_3_210 ⟨kw_3_211, kw_3_212⟩ ⟨rfl, rfl⟩ ⟨Nat.le_of_ble_eq_true rfl, Nat.le_of_ble_eq_true rfl⟩ rfl (by decide) (gsz hsz (by decide)) lay_159 rfl rfl (Nat.le_of_ble_eq_true rfl) ⟨Nat.le_of_ble_eq_true rfl, Nat.le_of_ble_eq_true rfl⟩ rfl rfl dX11_readTape_48 rfl (fun v9 M10 P11 => ?_)
  obtain ⟨rv9, IM10, CM10, FM10, xM10⟩ := P11
  exact hq _ _ _ _ dX11_readTape_51 ⟨by omega, IM10, CM10, (gFr.c (gFr.s (gFr.c gFr.rf FM5 rfl) e8 rc_1_14.2.2 rfl) FM10 rfl), ⟨⟨(by have y := xM10.1; rw [show M7 o3 5 = v2 from ((congrFun (congrFun e8 _) _).trans ((gset_ne (by omega)).trans xM5.1.1))] at y; rw [hv2]; exact y), ((gFr.at FM10 rc_1_14.2.2 rfl).trans ((congrFun (congrFun e8 _) _).trans (gset_eq _ _ _ _)))⟩, (by have oe : o3 = 87 + 6 * M 1 13 := (by rw [hv1]; omega); rw [← oe]; exact (xM10.2.1).trans ((congrFun (congrFun e8 _) _).trans ((gset_ne (by omega)).trans xM5.2.2.2.1))), (fun i i0 i1 hi => by have oe : o3 = 87 + 6 * M 1 13 := (by rw [hv1]; omega); have hq : 87 ≤ 87 + 6 * i ∧ 87 + 6 * i ≤ 147 ∧ (87 + 6 * i - 87) % 6 = 0 := (by omega); have hn : ¬ 87 + 6 * i = o3 := (by omega); exact ⟨((xM10.2.2.1 _ hq hn).1).trans ((congrFun (congrFun e8 _) _).trans ((gset_ne (by omega)).trans (xM5.2.2.2.2 _ hq hn).1)), fun k => ((xM10.2.2.1 _ hq hn).2 k).trans ((congrFun (congrFun e8 _) _).trans ((gset_ne (by omega)).trans ((xM5.2.2.2.2 _ hq hn).2 k)))⟩), (fun g => by have oe : o3 = 87 + 6 * M 1 13 := (by rw [hv1]; omega); rw [← oe]; obtain ⟨m, m1, m2, m3⟩ := xM10.2.2.2 g; rw [show M7 o3 5 = v2 from ((congrFun (congrFun e8 _) _).trans ((gset_ne (by omega)).trans xM5.1.1)), ← hv2] at m2; exact ⟨m, m1, m2, m3⟩)⟩⟩
abbrev R_e_X11_text : Room := { frames := 10, cells := 0, slots := 0, locals := 218 }
set_option maxRecDepth 100000 in
set_option maxHeartbeats 4000000 in
theorem e_X11_text {l : Launch} {n0 : Nat} {D : va_G} {cA : Nat → ClassId} {M : gM} (a : Int) (r_a : -2147483648 ≤ a ∧ a ≤ 2147483647) {sz : Nat} (hsz : 206 ≤ sz) (I : gI sz M) (C : gC sz M) (q_1_13 : 0 ≤ M 1 13 ∧ M 1 13 ≤ 10)  : Met l yX11_text (gWsOf yX11_text cX11_text 3 (Option.some Jvm.ClassFile.FieldType.int)) R_e_X11_text (gPc n0 D cA [gA n0 0, gJ a] M sz) (gQi n0 D cA sz (fun z M1 => (-160 ≤ z ∧ z ≤ 9) ∧ gI sz M1 ∧ gC sz M1 ∧ gFr 1019216128 M M1 ∧ (M1 1 13 ≤ 10 ∧ ((¬ (0 ≤ a ∧ a ≤ 300) ∧ z = -2 ∧ M1 1 13 = M 1 13 ∧ M1 1 14 = M 1 14) ∨ ((0 ≤ a ∧ a ≤ 300) ∧ 10 ≤ M 1 13 ∧ z = -4 ∧ M1 1 13 = M 1 13 ∧ M1 1 14 = M 1 14) ∨ (((0 ≤ a ∧ a ≤ 300) ∧ M 1 13 < 10) ∧ gAct (gTt M) (M 1 14) 8 0 = -1 ∧ z = M 1 13 ∧ M1 1 13 = M 1 13 + 1 ∧ M1 1 14 = 0) ∨ (((0 ≤ a ∧ a ≤ 300) ∧ M 1 13 < 10) ∧ ¬ gAct (gTt M) (M 1 14) 8 0 = -1 ∧ z = -10 - gAct (gTt M) (M 1 14) 8 0 ∧ M1 1 13 = M 1 13 ∧ M1 1 14 = 0)) ∧ (∀ i : Int, 0 ≤ i → i ≤ 10 → ¬ i = M 1 13 → M1 (87 + 6 * i) 6 = M (87 + 6 * i) 6 ∧ (∀ k : Int, M1 (87 + 6 * i + 2) k = M (87 + 6 * i + 2) k)) ∧ (0 ≤ z → M1 (87 + 6 * M 1 13) 6 = a ∧ (∃ m : Nat, m ≤ 8 ∧ gFin (gTt M) (M 1 14) m ∧ (∀ k : Int, 0 ≤ k → k ≤ 9 → M1 (87 + 6 * M 1 13 + 2) k = gSy (gTt M) k m)))))) 0 0 (fun q => n0 ≤ q) := by
  refine gMetI [gA n0 0, gJ a] (by decide) (Nat.le_of_ble_eq_true rfl) ⟨rfl, rfl⟩ ?_
  intro p e s m args below meth cd Q X hq
  have X : gCx p s m args meth cd n0 D cA "ParishUnion" cX11_text 3 := X
  show G p l e R_e_X11_text s m args below meth cd n0 D cA 3 Q 0 0 M sz 0 [(0, gA n0 0), (1, gJ a)] []
  obtain ⟨v1, hv1, rv1⟩ := gRd I (by decide) (gsz hsz (by decide)) rc_1_13.1
  obtain ⟨v2, hv2, rv2⟩ := gRd I (by decide) (gsz hsz (by decide)) rc_1_14.1
  refine g_iload_n (n := 1) X 1 dX11_text_0 rfl rfl rfl ?_
  refine g_iconst (n := 2) X dX11_text_1 rfl ?_
  refine g_sipush (n := 5) X dX11_text_2 (by decide +kernel) rfl ?_
  refine g_callSi (n := 8) (As := [gJ a, gJ 0, gJ 300]) (rest := []) (cs1 := 0) (ss1 := 0) X (s_X11_within a (by omega) 0 (by omega) 300 (by omega) hsz I C ) okX11_within kw_3_29 kw_3_30 ⟨rfl, rfl⟩ ⟨Nat.le_of_ble_eq_true rfl, Nat.le_of_ble_eq_true rfl⟩ rfl rfl (Nat.le_of_ble_eq_true rfl) ⟨Nat.le_of_ble_eq_true rfl, Nat.le_of_ble_eq_true rfl⟩ rfl rfl dX11_text_5 rfl (fun v3 M4 P5 => ?_)
  obtain ⟨rfl, rv3, xv3⟩ := P5
  refine g_if_ne (n := 11) (tgt := 14) X dX11_text_8 (by decide) (by omega) rfl (fun c6 => ?_) (fun c6 => ?_)
  · refine g_aload_n (n := 15) X 0 dX11_text_14 rfl rfl rfl ?_
    refine gg_11_0 (n := 18) (z := 1) X (by decide) (gsz hsz (by decide)) lay_0 kw_2_231 dX11_text_15 rfl (rf_0_0 I (gsz hsz (by decide))) (by decide) ?_
    refine gg_9_13 (n := 21) (z := v1) X (by decide) (gsz hsz (by decide)) lay_1 kw_2_135 dX11_text_18 rfl hv1 ?_
    refine g_bipush (n := 23) X dX11_text_21 (by decide +kernel) rfl ?_
    refine g_icmp_lt (n := 26) (tgt := 29) X dX11_text_23 (by decide) (by omega) (by omega) rfl (fun c7 => ?_) (fun c7 => ?_)
    · refine g_aload_n (n := 30) X 0 dX11_text_29 rfl rfl rfl ?_
      refine g_iload_n (n := 31) X 1 dX11_text_30 rfl rfl rfl ?_
      refine g_callVi (n := 34) (As := [gJ a]) (rest := []) (cs1 := 0) (ss1 := 0) X (e_X11_readTape a (by omega) hsz I C (by have := hv1; omega)) okX11_readTape kw_3_199 ⟨kw_3_201, kw_0_6⟩ ⟨rfl, rfl⟩ ⟨Nat.le_of_ble_eq_true rfl, Nat.le_of_ble_eq_true rfl⟩ rfl (by decide) (gsz hsz (by decide)) lay_0 rfl rfl (Nat.le_of_ble_eq_true rfl) ⟨Nat.le_of_ble_eq_true rfl, Nat.le_of_ble_eq_true rfl⟩ rfl rfl dX11_text_31 rfl (fun v8 M9 P10 => ?_)
      obtain ⟨rv8, IM9, CM9, FM9, xM9⟩ := P10
      refine g_istore_n (n := 35) (L' := [(2, gJ v8), (0, gA n0 0), (1, gJ a)]) X dX11_text_34 rfl (by decide) rfl rfl ?_
      refine g_iload_n (n := 36) X 0 dX11_text_35 rfl rfl rfl ?_
      refine g_iconst (n := 37) X dX11_text_36 rfl ?_
      refine g_icmp_eq (n := 40) (tgt := 45) X dX11_text_37 (by decide) (by omega) (by omega) rfl (fun c11 => ?_) (fun c11 => ?_)
      · refine g_aload_n (n := 46) X 1 dX11_text_45 rfl rfl rfl ?_
        refine gg_11_0 (n := 49) (z := 1) X (by decide) (gsz hsz (by decide)) lay_0 kw_2_231 dX11_text_46 rfl (rf_0_0 IM9 (gsz hsz (by decide))) (by decide) ?_
        refine g_dup (n := 50) X dX11_text_49 rfl rfl ?_
        refine gg_9_13 (n := 53) (z := v1) X (by decide) (gsz hsz (by decide)) lay_1 kw_2_135 dX11_text_50 rfl ((gFr.at FM9 rc_1_13.2.2 rfl).trans hv1) ?_
        refine g_dup_x1 (n := 54) X dX11_text_53 rfl rfl rfl ?_
        refine g_iconst (n := 55) X dX11_text_54 rfl ?_
        refine g_iadd (n := 56) (z := v1 + 1) X dX11_text_55 (by omega) rfl ?_
        refine gp_9_13 (n := 59) X (by decide) (gsz hsz (by decide)) lay_1 kw_2_135 dX11_text_56 rfl ?_
        refine G.nm (fun M12 e13 => ?_)
        have IM12 : gI sz M12 := gI.set IM9 rc_1_13.1 (by omega) e13
        have CM12 : gC sz M12 := gC.set CM9 rc_1_13.2.1 e13
        exact hq _ _ _ _ dX11_text_59 ⟨by omega, IM12, CM12, (gFr.s (gFr.c gFr.rf FM9 rfl) e13 rc_1_13.2.2 rfl), ⟨(by have zb13 : M 1 13 = v1 := hv1; have ze13 : M12 1 13 = v1 + 1 := ((congrFun (congrFun e13 _) _).trans (gset_eq _ _ _ _)); have zb14 : M 1 14 = v2 := hv2; have ze14 : M12 1 14 = 0 := ((congrFun (congrFun e13 _) _).trans ((gset_ne (by omega)).trans xM9.1.2)); have y := xM9.1.1; clear xM9; omega), (by have zb13 : M 1 13 = v1 := hv1; have ze13 : M12 1 13 = v1 + 1 := ((congrFun (congrFun e13 _) _).trans (gset_eq _ _ _ _)); have zb14 : M 1 14 = v2 := hv2; have ze14 : M12 1 14 = 0 := ((congrFun (congrFun e13 _) _).trans ((gset_ne (by omega)).trans xM9.1.2)); have y := xM9.1.1; clear xM9; omega), (fun i i0 i1 hi => ⟨((congrFun (congrFun e13 _) _).trans ((gset_ne (by omega)).trans (xM9.2.2.1 i i0 i1 hi).1)), fun k => ((congrFun (congrFun e13 _) _).trans ((gset_ne (by omega)).trans ((xM9.2.2.1 i i0 i1 hi).2 k)))⟩), (fun g => by have zc := hv1; obtain ⟨m, m1, m2, m3⟩ := xM9.2.2.2 (by have zb13 : M 1 13 = v1 := hv1; have ze13 : M12 1 13 = v1 + 1 := ((congrFun (congrFun e13 _) _).trans (gset_eq _ _ _ _)); have zb14 : M 1 14 = v2 := hv2; have ze14 : M12 1 14 = 0 := ((congrFun (congrFun e13 _) _).trans ((gset_ne (by omega)).trans xM9.1.2)); have y := xM9.1.1; clear xM9; omega); exact ⟨((congrFun (congrFun e13 _) _).trans ((gset_ne (by omega)).trans xM9.2.1)), m, m1, m2, fun k k0 k1 => ((congrFun (congrFun e13 _) _).trans ((gset_ne (by omega)).trans (m3 k k0 k1)))⟩)⟩⟩
      · refine g_bipush (n := 42) X dX11_text_40 (by decide +kernel) rfl ?_
        refine g_iload_n (n := 43) X 0 dX11_text_42 rfl rfl rfl ?_
        refine g_isub (n := 44) (z := (-10) - v8) X dX11_text_43 rfl rfl ?_
        exact hq _ _ _ _ dX11_text_44 ⟨by omega, IM9, CM9, (gFr.c gFr.rf FM9 rfl), ⟨(by have zb13 : M 1 13 = v1 := hv1; have ze13 : M9 1 13 = v1 := ((gFr.at FM9 rc_1_13.2.2 rfl).trans hv1); have zb14 : M 1 14 = v2 := hv2; have ze14 : M9 1 14 = 0 := xM9.1.2; have y := xM9.1.1; clear xM9; omega), (by have zb13 : M 1 13 = v1 := hv1; have ze13 : M9 1 13 = v1 := ((gFr.at FM9 rc_1_13.2.2 rfl).trans hv1); have zb14 : M 1 14 = v2 := hv2; have ze14 : M9 1 14 = 0 := xM9.1.2; have y := xM9.1.1; clear xM9; omega), (fun i i0 i1 hi => ⟨(xM9.2.2.1 i i0 i1 hi).1, fun k => ((xM9.2.2.1 i i0 i1 hi).2 k)⟩), (fun g => by have zb13 : M 1 13 = v1 := hv1; have ze13 : M9 1 13 = v1 := ((gFr.at FM9 rc_1_13.2.2 rfl).trans hv1); have zb14 : M 1 14 = v2 := hv2; have ze14 : M9 1 14 = 0 := xM9.1.2; have y := xM9.1.1; clear xM9; exfalso; omega)⟩⟩
    · refine g_bipush (n := 28) X dX11_text_26 (by decide +kernel) rfl ?_
      exact hq _ _ _ _ dX11_text_28 ⟨by omega, I, C, gFr.rf, ⟨(by have zb13 : M 1 13 = v1 := hv1; have ze13 : M 1 13 = v1 := hv1; have zb14 : M 1 14 = v2 := hv2; have ze14 : M 1 14 = v2 := hv2; omega), (by have zb13 : M 1 13 = v1 := hv1; have ze13 : M 1 13 = v1 := hv1; have zb14 : M 1 14 = v2 := hv2; have ze14 : M 1 14 = v2 := hv2; omega), (fun i i0 i1 hi => ⟨rfl, fun k => rfl⟩), (fun g => by exfalso; omega)⟩⟩
  · refine g_bipush (n := 13) X dX11_text_11 (by decide +kernel) rfl ?_
    exact hq _ _ _ _ dX11_text_13 ⟨by omega, I, C, gFr.rf, ⟨(by have zb13 : M 1 13 = v1 := hv1; have ze13 : M 1 13 = v1 := hv1; have zb14 : M 1 14 = v2 := hv2; have ze14 : M 1 14 = v2 := hv2; omega), (by have zb13 : M 1 13 = v1 := hv1; have ze13 : M 1 13 = v1 := hv1; have zb14 : M 1 14 = v2 := hv2; have ze14 : M 1 14 = v2 := hv2; omega), (fun i i0 i1 hi => ⟨rfl, fun k => rfl⟩), (fun g => by exfalso; omega)⟩⟩
