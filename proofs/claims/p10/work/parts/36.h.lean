theorem dX12_image_0 : decode cX12_image 0 = .ok (.aload_n 0, 1) := dc_42 (by decide +kernel)
theorem dX12_image_1 : decode cX12_image 1 = .ok (.aload_n 0, 1) := dc_42 (by decide +kernel)
theorem dX12_image_2 : decode cX12_image 2 = .ok (.getfield 16, 3) := dc_180 0 16 (by decide +kernel)
theorem kw_6_29 : (Jvm.Cond.fieldLink "ParishUnionModel" (16 : Nat) "ParishUnionModel" "image" "[I") ∈ gT := gT_of (tb_6 _ (List.mem_of_getElem? (i := 29) rfl)) rfl
theorem rf_190_3 {sz : Nat} {M : gM} (I : gI sz M) (h : (190 : Int) < (sz : Int)) : M 190 3 = 193 + 1 := gI.rf I (by decide) h (by decide +kernel)
theorem dX12_image_5 : decode cX12_image 5 = .ok (.aload_n 0, 1) := dc_42 (by decide +kernel)
theorem dX12_image_6 : decode cX12_image 6 = .ok (.getfield 7, 3) := dc_180 0 7 (by decide +kernel)
theorem dX12_image_9 : decode cX12_image 9 = .ok (.invokevirtual 296, 3) := dc_182 1 40 (by decide +kernel)
theorem dX12_image_12 : decode cX12_image 12 = .ok (.aload_n 0, 1) := dc_42 (by decide +kernel)
theorem dX12_image_13 : decode cX12_image 13 = .ok (.iconst 1, 1) := dc_4 (by decide +kernel)
theorem dX12_image_14 : decode cX12_image 14 = .ok (.putfield 312, 3) := dc_181 1 56 (by decide +kernel)
theorem kw_6_30 : (Jvm.Cond.fieldLink "ParishUnionModel" (312 : Nat) "ParishUnionModel" "hasImage" "Z") ∈ gT := gT_of (tb_6 _ (List.mem_of_getElem? (i := 30) rfl)) rfl
theorem rc_190_4 : gRg 190 4 = (0, 1) ∧ gCr 190 4 = false ∧ gG 190 4 = 73 := by decide +kernel
theorem dX12_image_17 : decode cX12_image 17 = .ok (.aload_n 0, 1) := dc_42 (by decide +kernel)
theorem dX12_image_18 : decode cX12_image 18 = .ok (.getfield 7, 3) := dc_180 0 7 (by decide +kernel)
theorem dX12_image_21 : decode cX12_image 21 = .ok (.iconst 0, 1) := dc_3 (by decide +kernel)
theorem dX12_image_22 : decode cX12_image 22 = .ok (.iaload, 1) := dc_46 (by decide +kernel)
theorem dX12_image_23 : decode cX12_image 23 = .ok (.ireturn, 1) := dc_172 (by decide +kernel)
abbrev R_X12_image : Room := { frames := 1, cells := 0, slots := 0, locals := 23 }
set_option maxRecDepth 100000 in
set_option maxHeartbeats 4000000 in
theorem s_X12_image {l : Launch} {n0 : Nat} {D : va_G} {cA : Nat → ClassId} {M : gM}  {sz : Nat} (hsz : 206 ≤ sz) (I : gI sz M) (C : gC sz M) (W : gW 191 M)  : Met l yX12_image (gWsOf yX12_image cX12_image 1 (Option.some Jvm.ClassFile.FieldType.int)) R_X12_image (gPc n0 D cA [gA n0 190] M sz) (gQi n0 D cA sz (fun z M1 => (0 ≤ z ∧ z ≤ 300) ∧ gI sz M1 ∧ gC sz M1 ∧ gFr 9463179709812999979008 M M1 ∧ (gW 193 M1 ∧ (∀ b : Int, 0 ≤ b → b < 25301 → M1 193 b = M 191 b) ∧ z = M 191 0 ∧ M1 190 4 = 1))) 0 0 (fun q => n0 ≤ q) := by
  refine gMetI [gA n0 190] (by decide) (Nat.le_of_ble_eq_true rfl) ⟨rfl, rfl⟩ ?_
  intro p e s m args below meth cd Q X hq
  have X : gCx p s m args meth cd n0 D cA "ParishUnionModel" cX12_image 1 := X
  show G p l e R_X12_image s m args below meth cd n0 D cA 1 Q 0 0 M sz 0 [(0, gA n0 190)] []
  obtain ⟨v1, hv1, rv1⟩ := gRd I (by decide) (gsz hsz (by decide)) (rs_NOW (k := 0) (by omega)).1
  refine g_aload_n (n := 1) X 0 dX12_image_0 rfl rfl rfl ?_
  refine g_aload_n (n := 2) X 0 dX12_image_1 rfl rfl rfl ?_
  refine gg_12_3 (n := 5) (z := 193) X (by decide) (gsz hsz (by decide)) lay_190 kw_6_29 dX12_image_2 rfl (rf_190_3 I (gsz hsz (by decide))) (by decide) ?_
  refine g_aload_n (n := 6) X 0 dX12_image_5 rfl rfl rfl ?_
  refine gg_12_1 (n := 9) (z := 191) X (by decide) (gsz hsz (by decide)) lay_190 kw_6_27 dX12_image_6 rfl (rf_190_1 I (gsz hsz (by decide))) (by decide) ?_
  refine g_callVv (n := 12) (As := [gA n0 193, gA n0 191]) (rest := []) (cs1 := 0) (ss1 := 0) X (s_X12_keep_193_191 hsz I C) okX12_keep kw_8_13 ⟨kw_8_15, kw_0_89⟩ ⟨rfl, rfl⟩ ⟨Nat.le_of_ble_eq_true rfl, Nat.le_of_ble_eq_true rfl⟩ rfl (by decide) (gsz hsz (by decide)) lay_190 rfl rfl (Nat.le_of_ble_eq_true rfl) ⟨Nat.le_of_ble_eq_true rfl, Nat.le_of_ble_eq_true rfl⟩ rfl rfl dX12_image_9 rfl (fun M3 P4 => ?_)
  obtain ⟨IM3, CM3, KM3, EM3⟩ := P4
  have FM3 : gFr 18446744073709551616 M M3 := gFr.obj KM3 (fun b => (congrArg (Nat.testBit 18446744073709551616) (show gG 193 b = 64 from rfl)).trans (by decide))
  have WIM3 : gW 193 M3 := gW.eq W I ⟨by decide, gsz hsz (by decide)⟩ (fun _ => rfl) EM3
  refine g_aload_n (n := 13) X 0 dX12_image_12 rfl rfl rfl ?_
  refine g_iconst (n := 14) X dX12_image_13 rfl ?_
  refine gp_12_4 (n := 17) X (by decide) (gsz hsz (by decide)) lay_190 kw_6_30 (by omega) dX12_image_14 rfl ?_
  refine G.nm (fun M5 e6 => ?_)
  have IM5 : gI sz M5 := gI.set IM3 rc_190_4.1 (by omega) e6
  have CM5 : gC sz M5 := gC.set CM3 rc_190_4.2.1 e6
  refine g_aload_n (n := 18) X 0 dX12_image_17 rfl rfl rfl ?_
  refine gg_12_1 (n := 21) (z := 191) X (by decide) (gsz hsz (by decide)) lay_190 kw_6_27 dX12_image_18 rfl (rf_190_1 IM5 (gsz hsz (by decide))) (by decide) ?_
  refine g_iconst (n := 22) X dX12_image_21 rfl ?_
  refine g_iald2 (n := 23) (v := v1) X (by decide) (gsz hsz (by decide)) lay_191 (by omega) (by omega) (by decide) dX12_image_22 rfl ((congrFun (congrFun e6 _) _).trans ((gset_ne (by omega)).trans ((gFr.at FM3 (rs_NOW (k := 0) (by omega)).2.2 rfl).trans hv1))) ?_
  exact hq _ _ _ _ dX12_image_23 ⟨by omega, IM5, CM5, (gFr.s (gFr.c gFr.rf FM3 rfl) e6 rc_190_4.2.2 rfl), ⟨gW.eq W I ⟨by decide, gsz hsz (by decide)⟩ (fun _ => rfl) (fun b h0 h1 => (congrFun (congrFun e6 193) b).trans ((gset_ne (by omega)).trans (EM3 b h0 h1))), (fun b h0 h1 => (congrFun (congrFun e6 193) b).trans ((gset_ne (by omega)).trans (EM3 b h0 h1))), by have q1 := ((congrFun (congrFun e6 _) _).trans ((gset_ne (by omega)).trans ((gFr.at FM3 (rs_NOW (k := 0) (by omega)).2.2 rfl).trans hv1))); omega, by have q1 := ((congrFun (congrFun e6 _) _).trans (gset_eq _ _ _ _)); omega⟩⟩
theorem dX12_undo_0 : decode cX12_undo 0 = .ok (.aload_n 0, 1) := dc_42 (by decide +kernel)
theorem dX12_undo_1 : decode cX12_undo 1 = .ok (.getfield 312, 3) := dc_180 1 56 (by decide +kernel)
theorem dX12_undo_4 : decode cX12_undo 4 = .ok (.ifCond .ne 6, 3) := dc_154 0 6 6 (by decide +kernel)
theorem dX12_undo_10 : decode cX12_undo 10 = .ok (.aload_n 0, 1) := dc_42 (by decide +kernel)
theorem dX12_undo_11 : decode cX12_undo 11 = .ok (.aload_n 0, 1) := dc_42 (by decide +kernel)
theorem dX12_undo_12 : decode cX12_undo 12 = .ok (.getfield 7, 3) := dc_180 0 7 (by decide +kernel)
theorem dX12_undo_15 : decode cX12_undo 15 = .ok (.aload_n 0, 1) := dc_42 (by decide +kernel)
theorem dX12_undo_16 : decode cX12_undo 16 = .ok (.getfield 16, 3) := dc_180 0 16 (by decide +kernel)
theorem dX12_undo_19 : decode cX12_undo 19 = .ok (.invokevirtual 296, 3) := dc_182 1 40 (by decide +kernel)
theorem dX12_undo_22 : decode cX12_undo 22 = .ok (.aload_n 0, 1) := dc_42 (by decide +kernel)
theorem dX12_undo_23 : decode cX12_undo 23 = .ok (.dup, 1) := dc_89 (by decide +kernel)
theorem dX12_undo_24 : decode cX12_undo 24 = .ok (.getfield 44, 3) := dc_180 0 44 (by decide +kernel)
theorem dX12_undo_27 : decode cX12_undo 27 = .ok (.iconst 1, 1) := dc_4 (by decide +kernel)
theorem dX12_undo_28 : decode cX12_undo 28 = .ok (.iadd, 1) := dc_96 (by decide +kernel)
theorem dX12_undo_29 : decode cX12_undo 29 = .ok (.putfield 44, 3) := dc_181 0 44 (by decide +kernel)
theorem dX12_undo_32 : decode cX12_undo 32 = .ok (.aload_n 0, 1) := dc_42 (by decide +kernel)
theorem dX12_undo_33 : decode cX12_undo 33 = .ok (.getfield 7, 3) := dc_180 0 7 (by decide +kernel)
theorem dX12_undo_36 : decode cX12_undo 36 = .ok (.iconst 0, 1) := dc_3 (by decide +kernel)
theorem dX12_undo_37 : decode cX12_undo 37 = .ok (.iaload, 1) := dc_46 (by decide +kernel)
theorem dX12_undo_38 : decode cX12_undo 38 = .ok (.ireturn, 1) := dc_172 (by decide +kernel)
theorem dX12_undo_7 : decode cX12_undo 7 = .ok (.bipush (-3), 2) := dc_16 253 (-3) (by decide +kernel)
theorem dX12_undo_9 : decode cX12_undo 9 = .ok (.ireturn, 1) := dc_172 (by decide +kernel)
abbrev R_X12_undo : Room := { frames := 1, cells := 0, slots := 0, locals := 23 }
set_option maxRecDepth 100000 in
set_option maxHeartbeats 4000000 in
theorem s_X12_undo {l : Launch} {n0 : Nat} {D : va_G} {cA : Nat → ClassId} {M : gM}  {sz : Nat} (hsz : 206 ≤ sz) (I : gI sz M) (C : gC sz M) (hWi : M 190 4 = 1 → gW 193 M)  : Met l yX12_undo (gWsOf yX12_undo cX12_undo 1 (Option.some Jvm.ClassFile.FieldType.int)) R_X12_undo (gPc n0 D cA [gA n0 190] M sz) (gQi n0 D cA sz (fun z M1 => (-3 ≤ z ∧ z ≤ 300) ∧ gI sz M1 ∧ gC sz M1 ∧ gFr 1083198133893890101737422848 M M1 ∧ ((M 190 4 = 0 ∧ z = -3 ∧ M1 = M) ∨ (M 190 4 = 1 ∧ z = M 193 0 ∧ (∀ b : Int, 0 ≤ b → b < 25301 → M1 191 b = M 193 b) ∧ gW 191 M1)))) 0 0 (fun q => n0 ≤ q) := by
  refine gMetI [gA n0 190] (by decide) (Nat.le_of_ble_eq_true rfl) ⟨rfl, rfl⟩ ?_
  intro p e s m args below meth cd Q X hq
  have X : gCx p s m args meth cd n0 D cA "ParishUnionModel" cX12_undo 1 := X
  show G p l e R_X12_undo s m args below meth cd n0 D cA 1 Q 0 0 M sz 0 [(0, gA n0 190)] []
  refine g_aload_n (n := 1) X 0 dX12_undo_0 rfl rfl rfl ?_
  obtain ⟨v1, hv1, rv1⟩ := gRd I (by decide) (gsz hsz (by decide)) rc_190_4.1
  refine gg_12_4 (n := 4) (z := v1) X (by decide) (gsz hsz (by decide)) lay_190 kw_6_30 dX12_undo_1 rfl hv1 ?_
  refine g_if_ne (n := 7) (tgt := 10) X dX12_undo_4 (by decide) (by omega) rfl (fun c2 => ?_) (fun c2 => ?_)
  · refine g_aload_n (n := 11) X 0 dX12_undo_10 rfl rfl rfl ?_
    refine g_aload_n (n := 12) X 0 dX12_undo_11 rfl rfl rfl ?_
    refine gg_12_1 (n := 15) (z := 191) X (by decide) (gsz hsz (by decide)) lay_190 kw_6_27 dX12_undo_12 rfl (rf_190_1 I (gsz hsz (by decide))) (by decide) ?_
    refine g_aload_n (n := 16) X 0 dX12_undo_15 rfl rfl rfl ?_
    refine gg_12_3 (n := 19) (z := 193) X (by decide) (gsz hsz (by decide)) lay_190 kw_6_29 dX12_undo_16 rfl (rf_190_3 I (gsz hsz (by decide))) (by decide) ?_
    refine g_callVv (n := 22) (As := [gA n0 191, gA n0 193]) (rest := []) (cs1 := 0) (ss1 := 0) X (s_X12_keep_191_193 hsz I C) okX12_keep kw_8_13 ⟨kw_8_15, kw_0_89⟩ ⟨rfl, rfl⟩ ⟨Nat.le_of_ble_eq_true rfl, Nat.le_of_ble_eq_true rfl⟩ rfl (by decide) (gsz hsz (by decide)) lay_190 rfl rfl (Nat.le_of_ble_eq_true rfl) ⟨Nat.le_of_ble_eq_true rfl, Nat.le_of_ble_eq_true rfl⟩ rfl rfl dX12_undo_19 rfl (fun M4 P5 => ?_)
    obtain ⟨IM4, CM4, KM4, EM4⟩ := P5
    have FM4 : gFr 1083197543598079743031771136 M M4 := gFr.obj KM4 gGsg_all
    have WWM4 : gW 191 M4 := gW.eq (hWi (by omega)) I ⟨by decide, gsz hsz (by decide)⟩ (fun _ => rfl) EM4
    refine g_aload_n (n := 23) X 0 dX12_undo_22 rfl rfl rfl ?_
    refine g_dup (n := 24) X dX12_undo_23 rfl rfl ?_
    obtain ⟨v6, hv6, rv6⟩ := gRd IM4 (by decide) (gsz hsz (by decide)) rc_190_19.1
    refine gg_12_19 (n := 27) (z := v6) X (by decide) (gsz hsz (by decide)) lay_190 kw_6_45 dX12_undo_24 rfl hv6 ?_
    refine g_iconst (n := 28) X dX12_undo_27 rfl ?_
    refine g_iaddA (n := 29) X dX12_undo_28 rfl (fun v7 rv7 xv7 => ?_)
    clear xv7
    refine gp_12_19 (n := 32) X (by decide) (gsz hsz (by decide)) lay_190 kw_6_45 dX12_undo_29 rfl ?_
    refine G.nm (fun M8 e9 => ?_)
    have IM8 : gI sz M8 := gI.set IM4 rc_190_19.1 (by omega) e9
    have CM8 : gC sz M8 := gC.set CM4 rc_190_19.2.1 e9
    refine g_aload_n (n := 33) X 0 dX12_undo_32 rfl rfl rfl ?_
    refine gg_12_1 (n := 36) (z := 191) X (by decide) (gsz hsz (by decide)) lay_190 kw_6_27 dX12_undo_33 rfl (rf_190_1 IM8 (gsz hsz (by decide))) (by decide) ?_
    refine g_iconst (n := 37) X dX12_undo_36 rfl ?_
    obtain ⟨v10, hv10, rv10⟩ := gRd IM8 (by decide) (gsz hsz (by decide)) (rs_NOW (k := 0) (by omega)).1
    refine g_iald2 (n := 38) (v := v10) X (by decide) (gsz hsz (by decide)) lay_191 (by omega) (by omega) (by decide) dX12_undo_37 rfl hv10 ?_
    exact hq _ _ _ _ dX12_undo_38 ⟨by omega, IM8, CM8, (gFr.s (gFr.c gFr.rf FM4 rfl) e9 rc_190_19.2.2 rfl), Or.inr ⟨by omega, by have q1 := hv10; have q2 := ((fun b h0 h1 => ((congrFun (congrFun e9 191) b).trans ((gset_ne (by omega)).trans (EM4 b h0 h1)))) : ∀ b : Int, 0 ≤ b → b < 25301 → M8 191 b = M 193 b) 0 (by decide) (by decide); omega, (fun b h0 h1 => ((congrFun (congrFun e9 191) b).trans ((gset_ne (by omega)).trans (EM4 b h0 h1)))), (gW.fr (S := 590295810358705651712) WWM4 ⟨sz, hsz, IM4⟩ (gFr.s gFr.rf e9 rc_190_19.2.2 rfl) rfl)⟩⟩
  · refine g_bipush (n := 9) X dX12_undo_7 (by decide +kernel) rfl ?_
    exact hq _ _ _ _ dX12_undo_9 ⟨by omega, I, C, gFr.rf, Or.inl ⟨by omega, rfl, rfl⟩⟩
