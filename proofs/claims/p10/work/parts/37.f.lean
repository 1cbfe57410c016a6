theorem gGR_all {o : Int} (h : 47 ≤ o ∧ o < 87) (b : Int) : (128 : Nat).testBit (gG o b) = true := by
  unfold gG gGn
  rw [if_pos (by omega), if_neg (by omega), if_neg (by omega), if_pos (by omega)]
  unfold gGc8
  by_cases h0 : b = 0
  · rw [if_pos h0]; rfl
  rw [if_neg h0]
  by_cases h1 : b = 1
  · rw [if_pos h1]; rfl
  rw [if_neg h1]
  by_cases h2 : b = 2
  · rw [if_pos h2]; rfl
  rw [if_neg h2]
  by_cases h3 : b = 3
  · rw [if_pos h3]; rfl
  rw [if_neg h3]
  by_cases h4 : b = 4
  · rw [if_pos h4]; rfl
  rw [if_neg h4]
  by_cases h5 : b = 5
  · rw [if_pos h5]; rfl
  rw [if_neg h5]
  by_cases h6 : b = 6
  · rw [if_pos h6]; rfl
  rw [if_neg h6]
  by_cases h7 : b = 7
  · rw [if_pos h7]; rfl
  rw [if_neg h7]
  rfl
theorem gFr.Rt {T : Nat} {M M1 : gM} (F : gFr T M M1) (h : T &&& 128 = 0) {o : Int} (ho : 47 ≤ o ∧ o < 87) (b : Int) : M1 o b = M o b := F o b (by
  have h1 : (T &&& 128).testBit (gG o b) = (T.testBit (gG o b) && (128 : Nat).testBit (gG o b)) := Nat.testBit_and T _ (gG o b)
  rw [h, gGR_all ho b, Bool.and_true, Nat.zero_testBit] at h1
  exact h1.symm)
theorem gFr.RI {T : Nat} {M M1 : gM} (F : gFr T M M1) (h : T &&& 38685626227668133590597632 = 0) {o : Int} (ho : 252 ≤ o ∧ o < 292) (b : Int) : M1 o b = M o b := F o b (by
  have h1 : (T &&& 38685626227668133590597632).testBit (gG o b) = (T.testBit (gG o b) && (38685626227668133590597632 : Nat).testBit (gG o b)) := Nat.testBit_and T _ (gG o b)
  rw [h, gGIR_all ho b, Bool.and_true, Nat.zero_testBit] at h1
  exact h1.symm)
theorem gFr.AI {T : Nat} {M M1 : gM} (F : gFr T M M1) (h : T &&& 77371252455336267181195264 = 0) {o : Int} (ho : 292 ≤ o ∧ o < 358) (b : Int) : M1 o b = M o b := F o b (by
  have h1 : (T &&& 77371252455336267181195264).testBit (gG o b) = (T.testBit (gG o b) && (77371252455336267181195264 : Nat).testBit (gG o b)) := Nat.testBit_and T _ (gG o b)
  rw [h, gGIA_all ho b, Bool.and_true, Nat.zero_testBit] at h1
  exact h1.symm)
abbrev R_s_X8_beginZ : Room := { frames := 0, cells := 0, slots := 0, locals := 0 }
set_option maxRecDepth 100000 in
set_option maxHeartbeats 4000000 in
theorem s_X8_beginZ {l : Launch} {n0 : Nat} {D : va_G} {cA : Nat → ClassId} {M : gM} {sz : Nat} (o : Int) (r_o : gRz sz o) (a : Int) (r_a : 0 ≤ a ∧ a ≤ 4) (b : Int) (r_b : 0 ≤ b ∧ b ≤ 15) (c : Int) (r_c : 0 ≤ c ∧ c ≤ 15) (d : Int) (r_d : 0 ≤ d ∧ d ≤ 9999) (f : Int) (r_f : -3000 ≤ f ∧ f ≤ 300) (hsz : 206 ≤ sz) (I : gI sz M) (C : gC sz M)   : Met l yX8_begin (gWsOf yX8_begin cX8_begin 6 (Option.none : Option Jvm.ClassFile.FieldType)) R_s_X8_beginZ (gPc n0 D cA [gA n0 o, gJ a, gJ b, gJ c, gJ d, gJ f] M sz) (gQv n0 D cA sz (fun Mz => ∃ M1 : gM, M1 = gset M o 0 a ∧ ∃ M3 : gM, M3 = gset M1 o 1 b ∧ ∃ M5 : gM, M5 = gset M3 o 2 c ∧ ∃ M7 : gM, M7 = gset M5 o 3 d ∧ ∃ M9 : gM, M9 = gset M7 o 4 f ∧ ∃ M11 : gM, M11 = gset M9 o 7 (-1) ∧ ∃ M13 : gM, M13 = gset M11 o 8 0 ∧ M13 = Mz)) 0 0 (fun q => n0 ≤ q) := by
  refine gMetV [gA n0 o, gJ a, gJ b, gJ c, gJ d, gJ f] (by decide) (Nat.le_of_ble_eq_true rfl) ⟨rfl, rfl⟩ ?_
  intro p e s m args below meth cd Q X hq
  have X : gCx p s m args meth cd n0 D cA "ParishUnion$Right" cX8_begin 6 := X
  show G p l e R_s_X8_beginZ s m args below meth cd n0 D cA 6 Q 0 0 M sz 0 [(0, gA n0 o), (1, gJ a), (2, gJ b), (3, gJ c), (4, gJ d), (5, gJ f)] []
  refine g_aload_n (n := 1) X 0 dX8_begin_0 rfl rfl rfl ?_
  refine g_iload_n (n := 2) X 1 dX8_begin_1 rfl rfl rfl ?_
  refine gp_8_0 (n := 5) X (Rzo0 r_o) (Rzosz hsz r_o) (lay3_Rz r_o) kw_2_24 dX8_begin_2 rfl ?_
  refine G.nm (fun M1 e2 => ?_)
  have IM1 : gI sz M1 := gI.set I (rRz_0 r_o).1 (by omega) e2
  refine g_aload_n (n := 6) X 0 dX8_begin_5 rfl rfl rfl ?_
  refine g_iload_n (n := 7) X 2 dX8_begin_6 rfl rfl rfl ?_
  refine gp_8_1 (n := 10) X (Rzo0 r_o) (Rzosz hsz r_o) (lay3_Rz r_o) kw_2_27 dX8_begin_7 rfl ?_
  refine G.nm (fun M3 e4 => ?_)
  have IM3 : gI sz M3 := gI.set IM1 (rRz_1 r_o).1 (by omega) e4
  refine g_aload_n (n := 11) X 0 dX8_begin_10 rfl rfl rfl ?_
  refine g_iload_n (n := 12) X 3 dX8_begin_11 rfl rfl rfl ?_
  refine gp_8_2 (n := 15) X (Rzo0 r_o) (Rzosz hsz r_o) (lay3_Rz r_o) kw_2_30 dX8_begin_12 rfl ?_
  refine G.nm (fun M5 e6 => ?_)
  have IM5 : gI sz M5 := gI.set IM3 (rRz_2 r_o).1 (by omega) e6
  refine g_aload_n (n := 16) X 0 dX8_begin_15 rfl rfl rfl ?_
  refine g_iload (n := 18) X 4 dX8_begin_16 rfl rfl ?_
  refine gp_8_3 (n := 21) X (Rzo0 r_o) (Rzosz hsz r_o) (lay3_Rz r_o) kw_2_33 dX8_begin_18 rfl ?_
  refine G.nm (fun M7 e8 => ?_)
  have IM7 : gI sz M7 := gI.set IM5 (rRz_3 r_o).1 (by omega) e8
  refine g_aload_n (n := 22) X 0 dX8_begin_21 rfl rfl rfl ?_
  refine g_iload (n := 24) X 5 dX8_begin_22 rfl rfl ?_
  refine gp_8_4 (n := 27) X (Rzo0 r_o) (Rzosz hsz r_o) (lay3_Rz r_o) kw_2_35 dX8_begin_24 rfl ?_
  refine G.nm (fun M9 e10 => ?_)
  have IM9 : gI sz M9 := gI.set IM7 (rRz_4 r_o).1 (by omega) e10
  refine g_aload_n (n := 28) X 0 dX8_begin_27 rfl rfl rfl ?_
  refine g_iconst (n := 29) X dX8_begin_28 rfl ?_
  refine gp_8_7 (n := 32) X (Rzo0 r_o) (Rzosz hsz r_o) (lay3_Rz r_o) kw_2_43 dX8_begin_29 rfl ?_
  refine G.nm (fun M11 e12 => ?_)
  have IM11 : gI sz M11 := gI.set IM9 (rRz_7 r_o).1 (by omega) e12
  refine g_aload_n (n := 33) X 0 dX8_begin_32 rfl rfl rfl ?_
  refine g_iconst (n := 34) X dX8_begin_33 rfl ?_
  refine gp_8_8 (n := 37) X (Rzo0 r_o) (Rzosz hsz r_o) (lay3_Rz r_o) kw_2_45 (by omega) dX8_begin_34 rfl ?_
  refine G.nm (fun M13 e14 => ?_)
  have IM13 : gI sz M13 := gI.set IM11 (rRz_8 r_o).1 (by omega) e14
  exact hq _ _ _ dX8_begin_37 ⟨M1, e2, M3, e4, M5, e6, M7, e8, M9, e10, M11, e12, M13, e14, rfl⟩
theorem dX8_copyFrom_0 : decode cX8_copyFrom 0 = .ok (.aload_n 0, 1) := dc_42 (by decide +kernel)
theorem dX8_copyFrom_1 : decode cX8_copyFrom 1 = .ok (.aload_n 1, 1) := dc_43 (by decide +kernel)
theorem dX8_copyFrom_2 : decode cX8_copyFrom 2 = .ok (.getfield 9, 3) := dc_180 0 9 (by decide +kernel)
theorem dX8_copyFrom_5 : decode cX8_copyFrom 5 = .ok (.aload_n 1, 1) := dc_43 (by decide +kernel)
theorem dX8_copyFrom_6 : decode cX8_copyFrom 6 = .ok (.getfield 15, 3) := dc_180 0 15 (by decide +kernel)
theorem dX8_copyFrom_9 : decode cX8_copyFrom 9 = .ok (.aload_n 1, 1) := dc_43 (by decide +kernel)
theorem dX8_copyFrom_10 : decode cX8_copyFrom 10 = .ok (.getfield 18, 3) := dc_180 0 18 (by decide +kernel)
theorem dX8_copyFrom_13 : decode cX8_copyFrom 13 = .ok (.aload_n 1, 1) := dc_43 (by decide +kernel)
theorem dX8_copyFrom_14 : decode cX8_copyFrom 14 = .ok (.getfield 21, 3) := dc_180 0 21 (by decide +kernel)
theorem dX8_copyFrom_17 : decode cX8_copyFrom 17 = .ok (.aload_n 1, 1) := dc_43 (by decide +kernel)
theorem dX8_copyFrom_18 : decode cX8_copyFrom 18 = .ok (.getfield 24, 3) := dc_180 0 24 (by decide +kernel)
theorem dX8_copyFrom_21 : decode cX8_copyFrom 21 = .ok (.invokevirtual 34, 3) := dc_182 0 34 (by decide +kernel)
theorem kw_5_226 : (Jvm.Cond.methodLink "ParishUnion$Right" (34 : Nat) ({ cls := "ParishUnion$Right", name := "begin", desc := "(IIIII)V" } : Jvm.MethodName)) ∈ gT := gT_of (tb_5 _ (List.mem_of_getElem? (i := 226) rfl)) rfl
theorem dX8_copyFrom_24 : decode cX8_copyFrom 24 = .ok (.aload_n 0, 1) := dc_42 (by decide +kernel)
theorem dX8_copyFrom_25 : decode cX8_copyFrom 25 = .ok (.aload_n 1, 1) := dc_43 (by decide +kernel)
theorem dX8_copyFrom_26 : decode cX8_copyFrom 26 = .ok (.getfield 38, 3) := dc_180 0 38 (by decide +kernel)
theorem dX8_copyFrom_29 : decode cX8_copyFrom 29 = .ok (.putfield 38, 3) := dc_181 0 38 (by decide +kernel)
theorem dX8_copyFrom_32 : decode cX8_copyFrom 32 = .ok (.aload_n 0, 1) := dc_42 (by decide +kernel)
theorem dX8_copyFrom_33 : decode cX8_copyFrom 33 = .ok (.aload_n 1, 1) := dc_43 (by decide +kernel)
theorem dX8_copyFrom_34 : decode cX8_copyFrom 34 = .ok (.getfield 41, 3) := dc_180 0 41 (by decide +kernel)
theorem dX8_copyFrom_37 : decode cX8_copyFrom 37 = .ok (.putfield 41, 3) := dc_181 0 41 (by decide +kernel)
theorem dX8_copyFrom_40 : decode cX8_copyFrom 40 = .ok (.aload_n 0, 1) := dc_42 (by decide +kernel)
theorem dX8_copyFrom_41 : decode cX8_copyFrom 41 = .ok (.aload_n 1, 1) := dc_43 (by decide +kernel)
theorem dX8_copyFrom_42 : decode cX8_copyFrom 42 = .ok (.getfield 27, 3) := dc_180 0 27 (by decide +kernel)
theorem dX8_copyFrom_45 : decode cX8_copyFrom 45 = .ok (.putfield 27, 3) := dc_181 0 27 (by decide +kernel)
theorem dX8_copyFrom_48 : decode cX8_copyFrom 48 = .ok (.aload_n 0, 1) := dc_42 (by decide +kernel)
theorem dX8_copyFrom_49 : decode cX8_copyFrom 49 = .ok (.aload_n 1, 1) := dc_43 (by decide +kernel)
theorem dX8_copyFrom_50 : decode cX8_copyFrom 50 = .ok (.getfield 30, 3) := dc_180 0 30 (by decide +kernel)
theorem dX8_copyFrom_53 : decode cX8_copyFrom 53 = .ok (.putfield 30, 3) := dc_181 0 30 (by decide +kernel)
theorem dX8_copyFrom_56 : decode cX8_copyFrom 56 = .ok (.return_, 1) := dc_177 (by decide +kernel)
abbrev R_s_X8_copyFrom : Room := { frames := 1, cells := 0, slots := 0, locals := 25 }
set_option maxRecDepth 100000 in
set_option maxHeartbeats 4000000 in
theorem s_X8_copyFrom {l : Launch} {n0 : Nat} {D : va_G} {cA : Nat → ClassId} {M : gM} {sz : Nat} (o : Int) (r_o : gRz sz o) (oa : Int) (r_oa : gRz sz oa) (hsz : 206 ≤ sz) (I : gI sz M) (C : gC sz M) (hne : ¬ oa = o)  : Met l yX8_copyFrom (gWsOf yX8_copyFrom cX8_copyFrom 2 (Option.none : Option Jvm.ClassFile.FieldType)) R_s_X8_copyFrom (gPc n0 D cA [gA n0 o, gA n0 oa] M sz) (gQv n0 D cA sz (fun M1 => gI sz M1 ∧ gC sz M1 ∧ (∀ a b : Int, ¬ a = o → M1 a b = M a b) ∧ (∀ k : Int, 0 ≤ k ∧ k ≤ 8 → M1 o k = M oa k))) 0 0 (fun q => n0 ≤ q) := by
  refine gMetV [gA n0 o, gA n0 oa] (by decide) (Nat.le_of_ble_eq_true rfl) ⟨rfl, rfl⟩ ?_
  intro p e s m args below meth cd Q X hq
  have X : gCx p s m args meth cd n0 D cA "ParishUnion$Right" cX8_copyFrom 2 := X
  show G p l e R_s_X8_copyFrom s m args below meth cd n0 D cA 2 Q 0 0 M sz 0 [(0, gA n0 o), (1, gA n0 oa)] []
  refine g_aload_n (n := 1) X 0 dX8_copyFrom_0 rfl rfl rfl ?_
  refine g_aload_n (n := 2) X 1 dX8_copyFrom_1 rfl rfl rfl ?_
  obtain ⟨v1, hv1, rv1⟩ := gRd I (Rzo0 r_oa) (Rzosz hsz r_oa) (rRz_0 r_oa).1
  refine gg_8_0 (n := 5) (z := v1) X (Rzo0 r_oa) (Rzosz hsz r_oa) (lay3_Rz r_oa) kw_2_24 dX8_copyFrom_2 rfl hv1 ?_
  refine g_aload_n (n := 6) X 1 dX8_copyFrom_5 rfl rfl rfl ?_
  obtain ⟨v2, hv2, rv2⟩ := gRd I (Rzo0 r_oa) (Rzosz hsz r_oa) (rRz_1 r_oa).1
  refine gg_8_1 (n := 9) (z := v2) X (Rzo0 r_oa) (Rzosz hsz r_oa) (lay3_Rz r_oa) kw_2_27 dX8_copyFrom_6 rfl hv2 ?_
  refine g_aload_n (n := 10) X 1 dX8_copyFrom_9 rfl rfl rfl ?_
  obtain ⟨v3, hv3, rv3⟩ := gRd I (Rzo0 r_oa) (Rzosz hsz r_oa) (rRz_2 r_oa).1
  refine gg_8_2 (n := 13) (z := v3) X (Rzo0 r_oa) (Rzosz hsz r_oa) (lay3_Rz r_oa) kw_2_30 dX8_copyFrom_10 rfl hv3 ?_
  refine g_aload_n (n := 14) X 1 dX8_copyFrom_13 rfl rfl rfl ?_
  obtain ⟨v4, hv4, rv4⟩ := gRd I (Rzo0 r_oa) (Rzosz hsz r_oa) (rRz_3 r_oa).1
  refine gg_8_3 (n := 17) (z := v4) X (Rzo0 r_oa) (Rzosz hsz r_oa) (lay3_Rz r_oa) kw_2_33 dX8_copyFrom_14 rfl hv4 ?_
  refine g_aload_n (n := 18) X 1 dX8_copyFrom_17 rfl rfl rfl ?_
  obtain ⟨v5, hv5, rv5⟩ := gRd I (Rzo0 r_oa) (Rzosz hsz r_oa) (rRz_4 r_oa).1
  refine gg_8_4 (n := 21) (z := v5) X (Rzo0 r_oa) (Rzosz hsz r_oa) (lay3_Rz r_oa) kw_2_35 dX8_copyFrom_18 rfl hv5 ?_
  refine g_callVv (n := 24) (As := [gJ v1, gJ v2, gJ v3, gJ v4, gJ v5]) (rest := []) (cs1 := 0) (ss1 := 0) X (s_X8_beginZ o r_o v1 (by omega) v2 (by omega) v3 (by omega) v4 (by omega) v5 (by omega) hsz I C ) okX8_begin kw_5_226 ⟨kw_3_81, kw_3_82⟩ ⟨rfl, rfl⟩ ⟨Nat.le_of_ble_eq_true rfl, Nat.le_of_ble_eq_true rfl⟩ rfl (Rzo0 r_o) (Rzosz hsz r_o) (lay3_Rz r_o) rfl rfl (Nat.le_of_ble_eq_true rfl) ⟨Nat.le_of_ble_eq_true rfl, Nat.le_of_ble_eq_true rfl⟩ rfl rfl dX8_copyFrom_21 rfl (fun M7 P8 => ?_)
  obtain ⟨M9, e10, M11, e12, M13, e14, M15, e16, M17, e18, M19, e20, M21, e22, rfl⟩ := P8
  have IM9 : gI sz M9 := gI.set I (rRz_0 r_o).1 (by omega) e10
  have IM11 : gI sz M11 := gI.set IM9 (rRz_1 r_o).1 (by omega) e12
  have IM13 : gI sz M13 := gI.set IM11 (rRz_2 r_o).1 (by omega) e14
  have IM15 : gI sz M15 := gI.set IM13 (rRz_3 r_o).1 (by omega) e16
  have IM17 : gI sz M17 := gI.set IM15 (rRz_4 r_o).1 (by omega) e18
  have IM19 : gI sz M19 := gI.set IM17 (rRz_7 r_o).1 (by omega) e20
  have IM21 : gI sz M21 := gI.set IM19 (rRz_8 r_o).1 (by omega) e22
  refine g_aload_n (n := 25) X 0 dX8_copyFrom_24 rfl rfl rfl ?_
  refine g_aload_n (n := 26) X 1 dX8_copyFrom_25 rfl rfl rfl ?_
  obtain ⟨v23, hv23, rv23⟩ := gRd IM21 (Rzo0 r_oa) (Rzosz hsz r_oa) (rRz_5 r_oa).1
  refine gg_8_5 (n := 29) (z := v23) X (Rzo0 r_oa) (Rzosz hsz r_oa) (lay3_Rz r_oa) kw_2_38 dX8_copyFrom_26 rfl hv23 ?_
  refine gp_8_5 (n := 32) X (Rzo0 r_o) (Rzosz hsz r_o) (lay3_Rz r_o) kw_2_38 (by omega) dX8_copyFrom_29 rfl ?_
  refine G.nm (fun M24 e25 => ?_)
  have IM24 : gI sz M24 := gI.set IM21 (rRz_5 r_o).1 (by omega) e25
  refine g_aload_n (n := 33) X 0 dX8_copyFrom_32 rfl rfl rfl ?_
  refine g_aload_n (n := 34) X 1 dX8_copyFrom_33 rfl rfl rfl ?_
  obtain ⟨v26, hv26, rv26⟩ := gRd IM24 (Rzo0 r_oa) (Rzosz hsz r_oa) (rRz_6 r_oa).1
  refine gg_8_6 (n := 37) (z := v26) X (Rzo0 r_oa) (Rzosz hsz r_oa) (lay3_Rz r_oa) kw_2_41 dX8_copyFrom_34 rfl hv26 ?_
  refine gp_8_6 (n := 40) X (Rzo0 r_o) (Rzosz hsz r_o) (lay3_Rz r_o) kw_2_41 dX8_copyFrom_37 rfl ?_
  refine G.nm (fun M27 e28 => ?_)
  have IM27 : gI sz M27 := gI.set IM24 (rRz_6 r_o).1 (by omega) e28
  refine g_aload_n (n := 41) X 0 dX8_copyFrom_40 rfl rfl rfl ?_
  refine g_aload_n (n := 42) X 1 dX8_copyFrom_41 rfl rfl rfl ?_
  obtain ⟨v29, hv29, rv29⟩ := gRd IM27 (Rzo0 r_oa) (Rzosz hsz r_oa) (rRz_7 r_oa).1
  refine gg_8_7 (n := 45) (z := v29) X (Rzo0 r_oa) (Rzosz hsz r_oa) (lay3_Rz r_oa) kw_2_43 dX8_copyFrom_42 rfl hv29 ?_
  refine gp_8_7 (n := 48) X (Rzo0 r_o) (Rzosz hsz r_o) (lay3_Rz r_o) kw_2_43 dX8_copyFrom_45 rfl ?_
  refine G.nm (fun M30 e31 => ?_)
  have IM30 : gI sz M30 := gI.set IM27 (rRz_7 r_o).1 (by omega) e31
  refine g_aload_n (n := 49) X 0 dX8_copyFrom_48 rfl rfl rfl ?_
  refine g_aload_n (n := 50) X 1 dX8_copyFrom_49 rfl rfl rfl ?_
  obtain ⟨v32, hv32, rv32⟩ := gRd IM30 (Rzo0 r_oa) (Rzosz hsz r_oa) (rRz_8 r_oa).1
  refine gg_8_8 (n := 53) (z := v32) X (Rzo0 r_oa) (Rzosz hsz r_oa) (lay3_Rz r_oa) kw_2_45 dX8_copyFrom_50 rfl hv32 ?_
  refine gp_8_8 (n := 56) X (Rzo0 r_o) (Rzosz hsz r_o) (lay3_Rz r_o) kw_2_45 (by omega) dX8_copyFrom_53 rfl ?_
  refine G.nm (fun M33 e34 => ?_)
  have IM33 : gI sz M33 := gI.set IM30 (rRz_8 r_o).1 (by omega) e34
  have y0 : M33 o 0 = M oa 0 := ((congrFun (congrFun e34 _) _).trans ((gset_ne (by omega)).trans ((congrFun (congrFun e31 _) _).trans ((gset_ne (by omega)).trans ((congrFun (congrFun e28 _) _).trans ((gset_ne (by omega)).trans ((congrFun (congrFun e25 _) _).trans ((gset_ne (by omega)).trans ((congrFun (congrFun e22 _) _).trans ((gset_ne (by omega)).trans ((congrFun (congrFun e20 _) _).trans ((gset_ne (by omega)).trans ((congrFun (congrFun e18 _) _).trans ((gset_ne (by omega)).trans ((congrFun (congrFun e16 _) _).trans ((gset_ne (by omega)).trans ((congrFun (congrFun e14 _) _).trans ((gset_ne (by omega)).trans ((congrFun (congrFun e12 _) _).trans ((gset_ne (by omega)).trans ((congrFun (congrFun e10 _) _).trans (gset_eq _ _ _ _)))))))))))))))))))))).trans ((hv1 : M oa 0 = v1).symm.trans rfl)
  have y1 : M33 o 1 = M oa 1 := ((congrFun (congrFun e34 _) _).trans ((gset_ne (by omega)).trans ((congrFun (congrFun e31 _) _).trans ((gset_ne (by omega)).trans ((congrFun (congrFun e28 _) _).trans ((gset_ne (by omega)).trans ((congrFun (congrFun e25 _) _).trans ((gset_ne (by omega)).trans ((congrFun (congrFun e22 _) _).trans ((gset_ne (by omega)).trans ((congrFun (congrFun e20 _) _).trans ((gset_ne (by omega)).trans ((congrFun (congrFun e18 _) _).trans ((gset_ne (by omega)).trans ((congrFun (congrFun e16 _) _).trans ((gset_ne (by omega)).trans ((congrFun (congrFun e14 _) _).trans ((gset_ne (by omega)).trans ((congrFun (congrFun e12 _) _).trans (gset_eq _ _ _ _)))))))))))))))))))).trans ((hv2 : M oa 1 = v2).symm.trans rfl)
  have y2 : M33 o 2 = M oa 2 := ((congrFun (congrFun e34 _) _).trans ((gset_ne (by omega)).trans ((congrFun (congrFun e31 _) _).trans ((gset_ne (by omega)).trans ((congrFun (congrFun e28 _) _).trans ((gset_ne (by omega)).trans ((congrFun (congrFun e25 _) _).trans ((gset_ne (by omega)).trans ((congrFun (congrFun e22 _) _).trans ((gset_ne (by omega)).trans ((congrFun (congrFun e20 _) _).trans ((gset_ne (by omega)).trans ((congrFun (congrFun e18 _) _).trans ((gset_ne (by omega)).trans ((congrFun (congrFun e16 _) _).trans ((gset_ne (by omega)).trans ((congrFun (congrFun e14 _) _).trans (gset_eq _ _ _ _)))))))))))))))))).trans ((hv3 : M oa 2 = v3).symm.trans rfl)
  have y3 : M33 o 3 = M oa 3 := ((congrFun (congrFun e34 _) _).trans ((gset_ne (by omega)).trans ((congrFun (congrFun e31 _) _).trans ((gset_ne (by omega)).trans ((congrFun (congrFun e28 _) _).trans ((gset_ne (by omega)).trans ((congrFun (congrFun e25 _) _).trans ((gset_ne (by omega)).trans ((congrFun (congrFun e22 _) _).trans ((gset_ne (by omega)).trans ((congrFun (congrFun e20 _) _).trans ((gset_ne (by omega)).trans ((congrFun (congrFun e18 _) _).trans ((gset_ne (by omega)).trans ((congrFun (congrFun e16 _) _).trans (gset_eq _ _ _ _)))))))))))))))).trans ((hv4 : M oa 3 = v4).symm.trans rfl)
  have y4 : M33 o 4 = M oa 4 := ((congrFun (congrFun e34 _) _).trans ((gset_ne (by omega)).trans ((congrFun (congrFun e31 _) _).trans ((gset_ne (by omega)).trans ((congrFun (congrFun e28 _) _).trans ((gset_ne (by omega)).trans ((congrFun (congrFun e25 _) _).trans ((gset_ne (by omega)).trans ((congrFun (congrFun e22 _) _).trans ((gset_ne (by omega)).trans ((congrFun (congrFun e20 _) _).trans ((gset_ne (by omega)).trans ((congrFun (congrFun e18 _) _).trans (gset_eq _ _ _ _)))))))))))))).trans ((hv5 : M oa 4 = v5).symm.trans rfl)
  have y5 : M33 o 5 = M oa 5 := ((congrFun (congrFun e34 _) _).trans ((gset_ne (by omega)).trans ((congrFun (congrFun e31 _) _).trans ((gset_ne (by omega)).trans ((congrFun (congrFun e28 _) _).trans ((gset_ne (by omega)).trans ((congrFun (congrFun e25 _) _).trans (gset_eq _ _ _ _)))))))).trans ((hv23 : M21 oa 5 = v23).symm.trans ((congrFun (congrFun e22 _) _).trans ((gset_ne (by omega)).trans ((congrFun (congrFun e20 _) _).trans ((gset_ne (by omega)).trans ((congrFun (congrFun e18 _) _).trans ((gset_ne (by omega)).trans ((congrFun (congrFun e16 _) _).trans ((gset_ne (by omega)).trans ((congrFun (congrFun e14 _) _).trans ((gset_ne (by omega)).trans ((congrFun (congrFun e12 _) _).trans ((gset_ne (by omega)).trans ((congrFun (congrFun e10 _) _).trans ((gset_ne (by omega)).trans rfl)))))))))))))))
  have y6 : M33 o 6 = M oa 6 := ((congrFun (congrFun e34 _) _).trans ((gset_ne (by omega)).trans ((congrFun (congrFun e31 _) _).trans ((gset_ne (by omega)).trans ((congrFun (congrFun e28 _) _).trans (gset_eq _ _ _ _)))))).trans ((hv26 : M24 oa 6 = v26).symm.trans ((congrFun (congrFun e25 _) _).trans ((gset_ne (by omega)).trans ((congrFun (congrFun e22 _) _).trans ((gset_ne (by omega)).trans ((congrFun (congrFun e20 _) _).trans ((gset_ne (by omega)).trans ((congrFun (congrFun e18 _) _).trans ((gset_ne (by omega)).trans ((congrFun (congrFun e16 _) _).trans ((gset_ne (by omega)).trans ((congrFun (congrFun e14 _) _).trans ((gset_ne (by omega)).trans ((congrFun (congrFun e12 _) _).trans ((gset_ne (by omega)).trans ((congrFun (congrFun e10 _) _).trans ((gset_ne (by omega)).trans rfl)))))))))))))))))
  have y7 : M33 o 7 = M oa 7 := ((congrFun (congrFun e34 _) _).trans ((gset_ne (by omega)).trans ((congrFun (congrFun e31 _) _).trans (gset_eq _ _ _ _)))).trans ((hv29 : M27 oa 7 = v29).symm.trans ((congrFun (congrFun e28 _) _).trans ((gset_ne (by omega)).trans ((congrFun (congrFun e25 _) _).trans ((gset_ne (by omega)).trans ((congrFun (congrFun e22 _) _).trans ((gset_ne (by omega)).trans ((congrFun (congrFun e20 _) _).trans ((gset_ne (by omega)).trans ((congrFun (congrFun e18 _) _).trans ((gset_ne (by omega)).trans ((congrFun (congrFun e16 _) _).trans ((gset_ne (by omega)).trans ((congrFun (congrFun e14 _) _).trans ((gset_ne (by omega)).trans ((congrFun (congrFun e12 _) _).trans ((gset_ne (by omega)).trans ((congrFun (congrFun e10 _) _).trans ((gset_ne (by omega)).trans rfl)))))))))))))))))))
  have y8 : M33 o 8 = M oa 8 := ((congrFun (congrFun e34 _) _).trans (gset_eq _ _ _ _)).trans ((hv32 : M30 oa 8 = v32).symm.trans ((congrFun (congrFun e31 _) _).trans ((gset_ne (by omega)).trans ((congrFun (congrFun e28 _) _).trans ((gset_ne (by omega)).trans ((congrFun (congrFun e25 _) _).trans ((gset_ne (by omega)).trans ((congrFun (congrFun e22 _) _).trans ((gset_ne (by omega)).trans ((congrFun (congrFun e20 _) _).trans ((gset_ne (by omega)).trans ((congrFun (congrFun e18 _) _).trans ((gset_ne (by omega)).trans ((congrFun (congrFun e16 _) _).trans ((gset_ne (by omega)).trans ((congrFun (congrFun e14 _) _).trans ((gset_ne (by omega)).trans ((congrFun (congrFun e12 _) _).trans ((gset_ne (by omega)).trans ((congrFun (congrFun e10 _) _).trans ((gset_ne (by omega)).trans rfl)))))))))))))))))))))
  have yf : ∀ a b : Int, ¬ a = o → M33 a b = M a b := fun a b h => ((congrFun (congrFun e34 _) _).trans ((gset_ne (fun q => h q.1)).trans ((congrFun (congrFun e31 _) _).trans ((gset_ne (fun q => h q.1)).trans ((congrFun (congrFun e28 _) _).trans ((gset_ne (fun q => h q.1)).trans ((congrFun (congrFun e25 _) _).trans ((gset_ne (fun q => h q.1)).trans ((congrFun (congrFun e22 _) _).trans ((gset_ne (fun q => h q.1)).trans ((congrFun (congrFun e20 _) _).trans ((gset_ne (fun q => h q.1)).trans ((congrFun (congrFun e18 _) _).trans ((gset_ne (fun q => h q.1)).trans ((congrFun (congrFun e16 _) _).trans ((gset_ne (fun q => h q.1)).trans ((congrFun (congrFun e14 _) _).trans ((gset_ne (fun q => h q.1)).trans ((congrFun (congrFun e12 _) _).trans ((gset_ne (fun q => h q.1)).trans ((congrFun (congrFun e10 _) _).trans ((gset_ne (fun q => h q.1)).trans rfl))))))))))))))))))))))
  have yC : gC sz M33 := gC.copyR C r_o r_oa yf y0 y2
  have yk : ∀ k : Int, 0 ≤ k ∧ k ≤ 8 → M33 o k = M oa k := by
    intro k hk
    rcases (by omega : k = 0 ∨ k = 1 ∨ k = 2 ∨ k = 3 ∨ k = 4 ∨ k = 5 ∨ k = 6 ∨ k = 7 ∨ k = 8) with rfl | rfl | rfl | rfl | rfl | rfl | rfl | rfl | rfl
    · exact y0
    · exact y1
    · exact y2
    · exact y3
    · exact y4
    · exact y5
    · exact y6
    · exact y7
    · exact y8
  exact hq _ _ _ dX8_copyFrom_56 ⟨IM33, yC, yf, yk⟩
