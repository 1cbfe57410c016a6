theorem gcpy_in {M : gM} {o1 o0 z b : Int} (h : 0 ≤ b ∧ b < z) : gcpy M o1 o0 z o1 b = M o0 b := by simp only [gcpy]; rw [if_pos ⟨trivial, h.1, h.2⟩]
theorem dX2_copyFrom_0 : decode cX2_copyFrom 0 = .ok (.aload_n 1, 1) := dc_43 (by decide +kernel)
theorem dX2_copyFrom_1 : decode cX2_copyFrom 1 = .ok (.getfield 9, 3) := dc_180 0 9 (by decide +kernel)
theorem dX2_copyFrom_4 : decode cX2_copyFrom 4 = .ok (.iconst 0, 1) := dc_3 (by decide +kernel)
theorem dX2_copyFrom_5 : decode cX2_copyFrom 5 = .ok (.aload_n 0, 1) := dc_42 (by decide +kernel)
theorem dX2_copyFrom_6 : decode cX2_copyFrom 6 = .ok (.getfield 9, 3) := dc_180 0 9 (by decide +kernel)
theorem rf_162_0 {sz : Nat} {M : gM} (I : gI sz M) (h : (162 : Int) < (sz : Int)) : M 162 0 = 163 + 1 := gI.rf I (by decide) h (by decide +kernel)
theorem dX2_copyFrom_9 : decode cX2_copyFrom 9 = .ok (.iconst 0, 1) := dc_3 (by decide +kernel)
theorem dX2_copyFrom_10 : decode cX2_copyFrom 10 = .ok (.iconst 4, 1) := dc_7 (by decide +kernel)
theorem dX2_copyFrom_11 : decode cX2_copyFrom 11 = .ok (.invokestatic 37, 3) := dc_184 0 37 (by decide +kernel)
theorem kw_5_169 : (Jvm.Cond.methodLink "ParishUnion$House" (37 : Nat) ({ cls := "java/lang/System", name := "arraycopy", desc := "(Ljava/lang/Object;ILjava/lang/Object;II)V" } : Jvm.MethodName)) ∈ gT := gT_of (tb_5 _ (List.mem_of_getElem? (i := 169) rfl)) rfl
theorem ra_163 (k : Int) : gRg 163 k = (-2147483648, 2147483647) ∧ gCr 163 k = false ∧ gG 163 k = 31 := ⟨rfl, rfl, rfl⟩
theorem dX2_copyFrom_14 : decode cX2_copyFrom 14 = .ok (.aload_n 1, 1) := dc_43 (by decide +kernel)
theorem dX2_copyFrom_15 : decode cX2_copyFrom 15 = .ok (.getfield 15, 3) := dc_180 0 15 (by decide +kernel)
theorem dX2_copyFrom_18 : decode cX2_copyFrom 18 = .ok (.iconst 0, 1) := dc_3 (by decide +kernel)
theorem dX2_copyFrom_19 : decode cX2_copyFrom 19 = .ok (.aload_n 0, 1) := dc_42 (by decide +kernel)
theorem dX2_copyFrom_20 : decode cX2_copyFrom 20 = .ok (.getfield 15, 3) := dc_180 0 15 (by decide +kernel)
theorem rf_162_1 {sz : Nat} {M : gM} (I : gI sz M) (h : (162 : Int) < (sz : Int)) : M 162 1 = 164 + 1 := gI.rf I (by decide) h (by decide +kernel)
theorem dX2_copyFrom_23 : decode cX2_copyFrom 23 = .ok (.iconst 0, 1) := dc_3 (by decide +kernel)
theorem dX2_copyFrom_24 : decode cX2_copyFrom 24 = .ok (.aload_n 0, 1) := dc_42 (by decide +kernel)
theorem dX2_copyFrom_25 : decode cX2_copyFrom 25 = .ok (.getfield 15, 3) := dc_180 0 15 (by decide +kernel)
theorem dX2_copyFrom_28 : decode cX2_copyFrom 28 = .ok (.arraylength, 1) := dc_190 (by decide +kernel)
theorem dX2_copyFrom_29 : decode cX2_copyFrom 29 = .ok (.invokestatic 37, 3) := dc_184 0 37 (by decide +kernel)
theorem ra_164 (k : Int) : gRg 164 k = (-2147483648, 2147483647) ∧ gCr 164 k = false ∧ gG 164 k = 31 := ⟨rfl, rfl, rfl⟩
theorem dX2_copyFrom_32 : decode cX2_copyFrom 32 = .ok (.aload_n 1, 1) := dc_43 (by decide +kernel)
theorem dX2_copyFrom_33 : decode cX2_copyFrom 33 = .ok (.getfield 18, 3) := dc_180 0 18 (by decide +kernel)
theorem dX2_copyFrom_36 : decode cX2_copyFrom 36 = .ok (.iconst 0, 1) := dc_3 (by decide +kernel)
theorem dX2_copyFrom_37 : decode cX2_copyFrom 37 = .ok (.aload_n 0, 1) := dc_42 (by decide +kernel)
theorem dX2_copyFrom_38 : decode cX2_copyFrom 38 = .ok (.getfield 18, 3) := dc_180 0 18 (by decide +kernel)
theorem rf_162_2 {sz : Nat} {M : gM} (I : gI sz M) (h : (162 : Int) < (sz : Int)) : M 162 2 = 165 + 1 := gI.rf I (by decide) h (by decide +kernel)
theorem dX2_copyFrom_41 : decode cX2_copyFrom 41 = .ok (.iconst 0, 1) := dc_3 (by decide +kernel)
theorem dX2_copyFrom_42 : decode cX2_copyFrom 42 = .ok (.iconst 3, 1) := dc_6 (by decide +kernel)
theorem dX2_copyFrom_43 : decode cX2_copyFrom 43 = .ok (.invokestatic 37, 3) := dc_184 0 37 (by decide +kernel)
theorem ra_165 (k : Int) : gRg 165 k = (0, 10) ∧ gCr 165 k = false ∧ gG 165 k = 31 := ⟨rfl, rfl, rfl⟩
theorem dX2_copyFrom_46 : decode cX2_copyFrom 46 = .ok (.aload_n 1, 1) := dc_43 (by decide +kernel)
theorem dX2_copyFrom_47 : decode cX2_copyFrom 47 = .ok (.getfield 21, 3) := dc_180 0 21 (by decide +kernel)
theorem dX2_copyFrom_50 : decode cX2_copyFrom 50 = .ok (.iconst 0, 1) := dc_3 (by decide +kernel)
theorem dX2_copyFrom_51 : decode cX2_copyFrom 51 = .ok (.aload_n 0, 1) := dc_42 (by decide +kernel)
theorem dX2_copyFrom_52 : decode cX2_copyFrom 52 = .ok (.getfield 21, 3) := dc_180 0 21 (by decide +kernel)
theorem rf_162_3 {sz : Nat} {M : gM} (I : gI sz M) (h : (162 : Int) < (sz : Int)) : M 162 3 = 166 + 1 := gI.rf I (by decide) h (by decide +kernel)
theorem dX2_copyFrom_55 : decode cX2_copyFrom 55 = .ok (.iconst 0, 1) := dc_3 (by decide +kernel)
theorem dX2_copyFrom_56 : decode cX2_copyFrom 56 = .ok (.aload_n 0, 1) := dc_42 (by decide +kernel)
theorem dX2_copyFrom_57 : decode cX2_copyFrom 57 = .ok (.getfield 21, 3) := dc_180 0 21 (by decide +kernel)
theorem dX2_copyFrom_60 : decode cX2_copyFrom 60 = .ok (.arraylength, 1) := dc_190 (by decide +kernel)
theorem dX2_copyFrom_61 : decode cX2_copyFrom 61 = .ok (.invokestatic 37, 3) := dc_184 0 37 (by decide +kernel)
theorem ra_166 (k : Int) : gRg 166 k = (-2147483648, 2147483647) ∧ gCr 166 k = false ∧ gG 166 k = 31 := ⟨rfl, rfl, rfl⟩
theorem dX2_copyFrom_64 : decode cX2_copyFrom 64 = .ok (.aload_n 1, 1) := dc_43 (by decide +kernel)
theorem dX2_copyFrom_65 : decode cX2_copyFrom 65 = .ok (.getfield 24, 3) := dc_180 0 24 (by decide +kernel)
theorem dX2_copyFrom_68 : decode cX2_copyFrom 68 = .ok (.iconst 0, 1) := dc_3 (by decide +kernel)
theorem dX2_copyFrom_69 : decode cX2_copyFrom 69 = .ok (.aload_n 0, 1) := dc_42 (by decide +kernel)
theorem dX2_copyFrom_70 : decode cX2_copyFrom 70 = .ok (.getfield 24, 3) := dc_180 0 24 (by decide +kernel)
theorem rf_162_4 {sz : Nat} {M : gM} (I : gI sz M) (h : (162 : Int) < (sz : Int)) : M 162 4 = 167 + 1 := gI.rf I (by decide) h (by decide +kernel)
theorem dX2_copyFrom_73 : decode cX2_copyFrom 73 = .ok (.iconst 0, 1) := dc_3 (by decide +kernel)
theorem dX2_copyFrom_74 : decode cX2_copyFrom 74 = .ok (.bipush 6, 2) := dc_16 6 6 (by decide +kernel)
theorem dX2_copyFrom_76 : decode cX2_copyFrom 76 = .ok (.invokestatic 37, 3) := dc_184 0 37 (by decide +kernel)
theorem ra_167 (k : Int) : gRg 167 k = (0, 4) ∧ gCr 167 k = false ∧ gG 167 k = 31 := ⟨rfl, rfl, rfl⟩
theorem dX2_copyFrom_79 : decode cX2_copyFrom 79 = .ok (.aload_n 1, 1) := dc_43 (by decide +kernel)
theorem dX2_copyFrom_80 : decode cX2_copyFrom 80 = .ok (.getfield 27, 3) := dc_180 0 27 (by decide +kernel)
theorem dX2_copyFrom_83 : decode cX2_copyFrom 83 = .ok (.iconst 0, 1) := dc_3 (by decide +kernel)
theorem dX2_copyFrom_84 : decode cX2_copyFrom 84 = .ok (.aload_n 0, 1) := dc_42 (by decide +kernel)
theorem dX2_copyFrom_85 : decode cX2_copyFrom 85 = .ok (.getfield 27, 3) := dc_180 0 27 (by decide +kernel)
theorem rf_162_5 {sz : Nat} {M : gM} (I : gI sz M) (h : (162 : Int) < (sz : Int)) : M 162 5 = 168 + 1 := gI.rf I (by decide) h (by decide +kernel)
theorem dX2_copyFrom_88 : decode cX2_copyFrom 88 = .ok (.iconst 0, 1) := dc_3 (by decide +kernel)
theorem dX2_copyFrom_89 : decode cX2_copyFrom 89 = .ok (.bipush 6, 2) := dc_16 6 6 (by decide +kernel)
theorem dX2_copyFrom_91 : decode cX2_copyFrom 91 = .ok (.invokestatic 37, 3) := dc_184 0 37 (by decide +kernel)
theorem ra_168 (k : Int) : gRg 168 k = (-2147483648, 2147483647) ∧ gCr 168 k = false ∧ gG 168 k = 31 := ⟨rfl, rfl, rfl⟩
theorem dX2_copyFrom_94 : decode cX2_copyFrom 94 = .ok (.aload_n 1, 1) := dc_43 (by decide +kernel)
theorem dX2_copyFrom_95 : decode cX2_copyFrom 95 = .ok (.getfield 30, 3) := dc_180 0 30 (by decide +kernel)
theorem dX2_copyFrom_98 : decode cX2_copyFrom 98 = .ok (.iconst 0, 1) := dc_3 (by decide +kernel)
theorem dX2_copyFrom_99 : decode cX2_copyFrom 99 = .ok (.aload_n 0, 1) := dc_42 (by decide +kernel)
theorem dX2_copyFrom_100 : decode cX2_copyFrom 100 = .ok (.getfield 30, 3) := dc_180 0 30 (by decide +kernel)
theorem rf_162_6 {sz : Nat} {M : gM} (I : gI sz M) (h : (162 : Int) < (sz : Int)) : M 162 6 = 169 + 1 := gI.rf I (by decide) h (by decide +kernel)
theorem dX2_copyFrom_103 : decode cX2_copyFrom 103 = .ok (.iconst 0, 1) := dc_3 (by decide +kernel)
theorem dX2_copyFrom_104 : decode cX2_copyFrom 104 = .ok (.bipush 6, 2) := dc_16 6 6 (by decide +kernel)
theorem dX2_copyFrom_106 : decode cX2_copyFrom 106 = .ok (.invokestatic 37, 3) := dc_184 0 37 (by decide +kernel)
theorem ra_169 (k : Int) : gRg 169 k = (-2147483648, 2147483647) ∧ gCr 169 k = false ∧ gG 169 k = 31 := ⟨rfl, rfl, rfl⟩
theorem dX2_copyFrom_109 : decode cX2_copyFrom 109 = .ok (.aload_n 0, 1) := dc_42 (by decide +kernel)
theorem dX2_copyFrom_110 : decode cX2_copyFrom 110 = .ok (.aload_n 1, 1) := dc_43 (by decide +kernel)
theorem dX2_copyFrom_111 : decode cX2_copyFrom 111 = .ok (.getfield 43, 3) := dc_180 0 43 (by decide +kernel)
theorem dX2_copyFrom_114 : decode cX2_copyFrom 114 = .ok (.putfield 43, 3) := dc_181 0 43 (by decide +kernel)
theorem rc_162_7 : gRg 162 7 = (0, 6) ∧ gCr 162 7 = false ∧ gG 162 7 = 31 := by decide +kernel
theorem dX2_copyFrom_117 : decode cX2_copyFrom 117 = .ok (.aload_n 0, 1) := dc_42 (by decide +kernel)
theorem dX2_copyFrom_118 : decode cX2_copyFrom 118 = .ok (.aload_n 1, 1) := dc_43 (by decide +kernel)
theorem dX2_copyFrom_119 : decode cX2_copyFrom 119 = .ok (.getfield 46, 3) := dc_180 0 46 (by decide +kernel)
theorem dX2_copyFrom_122 : decode cX2_copyFrom 122 = .ok (.putfield 46, 3) := dc_181 0 46 (by decide +kernel)
theorem rc_162_8 : gRg 162 8 = (-2147483648, 2147483647) ∧ gCr 162 8 = false ∧ gG 162 8 = 31 := by decide +kernel
theorem dX2_copyFrom_125 : decode cX2_copyFrom 125 = .ok (.aload_n 0, 1) := dc_42 (by decide +kernel)
theorem dX2_copyFrom_126 : decode cX2_copyFrom 126 = .ok (.aload_n 1, 1) := dc_43 (by decide +kernel)
theorem dX2_copyFrom_127 : decode cX2_copyFrom 127 = .ok (.getfield 33, 3) := dc_180 0 33 (by decide +kernel)
theorem kw_1_112 : (Jvm.Cond.fieldLink "ParishUnion$House" (33 : Nat) "ParishUnion$House" "price" "I") ∈ gT := gT_of (tb_1 _ (List.mem_of_getElem? (i := 112) rfl)) rfl
theorem dX2_copyFrom_130 : decode cX2_copyFrom 130 = .ok (.putfield 33, 3) := dc_181 0 33 (by decide +kernel)
theorem rc_162_9 : gRg 162 9 = (-2147483648, 2147483647) ∧ gCr 162 9 = false ∧ gG 162 9 = 31 := by decide +kernel
theorem dX2_copyFrom_133 : decode cX2_copyFrom 133 = .ok (.return_, 1) := dc_177 (by decide +kernel)
abbrev R_s_X2_copyFrom_162_15 : Room := { frames := 4, cells := 0, slots := 0, locals := 120 }
set_option maxRecDepth 100000 in
set_option maxHeartbeats 4000000 in
theorem s_X2_copyFrom_162_15 {l : Launch} {n0 : Nat} {D : va_G} {cA : Nat → ClassId} {M : gM}  {sz : Nat} (hsz : 206 ≤ sz) (I : gI sz M) (C : gC sz M)   : Met l yX2_copyFrom (gWsOf yX2_copyFrom cX2_copyFrom 2 (Option.none : Option Jvm.ClassFile.FieldType)) R_s_X2_copyFrom_162_15 (gPc n0 D cA [gA n0 162, gA n0 15] M sz) (gQv n0 D cA sz (fun M1 => gI sz M1 ∧ gC sz M1 ∧ gFr 2147483648 M M1 ∧ ((∀ b : Int, 0 ≤ b → b < 4 → M1 163 b = M 16 b) ∧ (∀ b : Int, 0 ≤ b → b < 301 → M1 164 b = M 17 b) ∧ (∀ b : Int, 0 ≤ b → b < 3 → M1 165 b = M 18 b) ∧ (∀ b : Int, 0 ≤ b → b < 30 → M1 166 b = M 19 b) ∧ (∀ b : Int, 0 ≤ b → b < 6 → M1 167 b = M 20 b) ∧ (∀ b : Int, 0 ≤ b → b < 6 → M1 168 b = M 21 b) ∧ (∀ b : Int, 0 ≤ b → b < 6 → M1 169 b = M 22 b) ∧ M1 162 7 = M 15 7 ∧ M1 162 8 = M 15 8 ∧ M1 162 9 = M 15 9))) 0 0 (fun q => n0 ≤ q) := by
  refine gMetV [gA n0 162, gA n0 15] (by decide) (Nat.le_of_ble_eq_true rfl) ⟨rfl, rfl⟩ ?_
  intro p e s m args below meth cd Q X hq
  have X : gCx p s m args meth cd n0 D cA "ParishUnion$House" cX2_copyFrom 2 := X
  show G p l e R_s_X2_copyFrom_162_15 s m args below meth cd n0 D cA 2 Q 0 0 M sz 0 [(0, gA n0 162), (1, gA n0 15)] []
  refine g_aload_n (n := 1) X 1 dX2_copyFrom_0 rfl rfl rfl ?_
  refine gg_2_0 (n := 4) (z := 16) X (by decide) (gsz hsz (by decide)) lay_15 kw_1_95 dX2_copyFrom_1 rfl (rf_15_0 I (gsz hsz (by decide))) (by decide) ?_
  refine g_iconst (n := 5) X dX2_copyFrom_4 rfl ?_
  refine g_aload_n (n := 6) X 0 dX2_copyFrom_5 rfl rfl rfl ?_
  refine gg_2_0 (n := 9) (z := 163) X (by decide) (gsz hsz (by decide)) lay_162 kw_1_95 dX2_copyFrom_6 rfl (rf_162_0 I (gsz hsz (by decide))) (by decide) ?_
  refine g_iconst (n := 10) X dX2_copyFrom_9 rfl ?_
  refine g_iconst (n := 11) X dX2_copyFrom_10 rfl ?_
  refine g_acopyI (n := 14) X kw_5_169 kw_3_209 kw_3_208 kw_1_16 (by decide) (gsz hsz (by decide)) lay_16 (by decide) (gsz hsz (by decide)) lay_163 (by omega) (by omega) (by omega) (by omega) (Nat.le_of_ble_eq_true rfl) (Nat.le_of_ble_eq_true rfl) dX2_copyFrom_11 rfl ?_
  refine G.nm (fun M1 e2 => ?_)
  have IM1 : gI sz M1 := gI.cpy I (by decide) (gsz hsz (by decide)) (fun k => ((ra_163 k).1.trans (ra_16 k).1.symm)) e2
  have CM1 : gC sz M1 := gC.cpy C (fun k => (ra_163 k).2.1) e2
  refine g_aload_n (n := 15) X 1 dX2_copyFrom_14 rfl rfl rfl ?_
  refine gg_2_1 (n := 18) (z := 17) X (by decide) (gsz hsz (by decide)) lay_15 kw_1_98 dX2_copyFrom_15 rfl (rf_15_1 IM1 (gsz hsz (by decide))) (by decide) ?_
  refine g_iconst (n := 19) X dX2_copyFrom_18 rfl ?_
  refine g_aload_n (n := 20) X 0 dX2_copyFrom_19 rfl rfl rfl ?_
  refine gg_2_1 (n := 23) (z := 164) X (by decide) (gsz hsz (by decide)) lay_162 kw_1_98 dX2_copyFrom_20 rfl (rf_162_1 IM1 (gsz hsz (by decide))) (by decide) ?_
  refine g_iconst (n := 24) X dX2_copyFrom_23 rfl ?_
  refine g_aload_n (n := 25) X 0 dX2_copyFrom_24 rfl rfl rfl ?_
  refine gg_2_1 (n := 28) (z := 164) X (by decide) (gsz hsz (by decide)) lay_162 kw_1_98 dX2_copyFrom_25 rfl (rf_162_1 IM1 (gsz hsz (by decide))) (by decide) ?_
  refine g_aleni (n := 29) (z := 301) X (by decide) (gsz hsz (by decide)) lay_164 (by decide +kernel) dX2_copyFrom_28 rfl ?_
  refine g_acopyI (n := 32) X kw_5_169 kw_3_209 kw_3_208 kw_1_16 (by decide) (gsz hsz (by decide)) lay_17 (by decide) (gsz hsz (by decide)) lay_164 (by omega) (by omega) (by omega) (by omega) (Nat.le_of_ble_eq_true rfl) (Nat.le_of_ble_eq_true rfl) dX2_copyFrom_29 rfl ?_
  refine G.nm (fun M3 e4 => ?_)
  have IM3 : gI sz M3 := gI.cpy IM1 (by decide) (gsz hsz (by decide)) (fun k => ((ra_164 k).1.trans (ra_17 k).1.symm)) e4
  have CM3 : gC sz M3 := gC.cpy CM1 (fun k => (ra_164 k).2.1) e4
  refine g_aload_n (n := 33) X 1 dX2_copyFrom_32 rfl rfl rfl ?_
  refine gg_2_2 (n := 36) (z := 18) X (by decide) (gsz hsz (by decide)) lay_15 kw_1_101 dX2_copyFrom_33 rfl (rf_15_2 IM3 (gsz hsz (by decide))) (by decide) ?_
  refine g_iconst (n := 37) X dX2_copyFrom_36 rfl ?_
  refine g_aload_n (n := 38) X 0 dX2_copyFrom_37 rfl rfl rfl ?_
  refine gg_2_2 (n := 41) (z := 165) X (by decide) (gsz hsz (by decide)) lay_162 kw_1_101 dX2_copyFrom_38 rfl (rf_162_2 IM3 (gsz hsz (by decide))) (by decide) ?_
  refine g_iconst (n := 42) X dX2_copyFrom_41 rfl ?_
  refine g_iconst (n := 43) X dX2_copyFrom_42 rfl ?_
  refine g_acopyI (n := 46) X kw_5_169 kw_3_209 kw_3_208 kw_1_16 (by decide) (gsz hsz (by decide)) lay_18 (by decide) (gsz hsz (by decide)) lay_165 (by omega) (by omega) (by omega) (by omega) (Nat.le_of_ble_eq_true rfl) (Nat.le_of_ble_eq_true rfl) dX2_copyFrom_43 rfl ?_
  refine G.nm (fun M5 e6 => ?_)
  have IM5 : gI sz M5 := gI.cpy IM3 (by decide) (gsz hsz (by decide)) (fun k => ((ra_165 k).1.trans (ra_18 k).1.symm)) e6
  have CM5 : gC sz M5 := gC.cpy CM3 (fun k => (ra_165 k).2.1) e6
  refine g_aload_n (n := 47) X 1 dX2_copyFrom_46 rfl rfl rfl ?_
  refine gg_2_3 (n := 50) (z := 19) X (by decide) (gsz hsz (by decide)) lay_15 kw_1_103 dX2_copyFrom_47 rfl (rf_15_3 IM5 (gsz hsz (by decide))) (by decide) ?_
  refine g_iconst (n := 51) X dX2_copyFrom_50 rfl ?_
  refine g_aload_n (n := 52) X 0 dX2_copyFrom_51 rfl rfl rfl ?_
  refine gg_2_3 (n := 55) (z := 166) X (by decide) (gsz hsz (by decide)) lay_162 kw_1_103 dX2_copyFrom_52 rfl (rf_162_3 IM5 (gsz hsz (by decide))) (by decide) ?_
  refine g_iconst (n := 56) X dX2_copyFrom_55 rfl ?_
  refine g_aload_n (n := 57) X 0 dX2_copyFrom_56 rfl rfl rfl ?_
  refine gg_2_3 (n := 60) (z := 166) X (by decide) (gsz hsz (by decide)) lay_162 kw_1_103 dX2_copyFrom_57 rfl (rf_162_3 IM5 (gsz hsz (by decide))) (by decide) ?_
  refine g_aleni (n := 61) (z := 30) X (by decide) (gsz hsz (by decide)) lay_166 (by decide +kernel) dX2_copyFrom_60 rfl ?_
  refine g_acopyI (n := 64) X kw_5_169 kw_3_209 kw_3_208 kw_1_16 (by decide) (gsz hsz (by decide)) lay_19 (by decide) (gsz hsz (by decide)) lay_166 (by omega) (by omega) (by omega) (by omega) (Nat.le_of_ble_eq_true rfl) (Nat.le_of_ble_eq_true rfl) dX2_copyFrom_61 rfl ?_
  refine G.nm (fun M7 e8 => ?_)
  have IM7 : gI sz M7 := gI.cpy IM5 (by decide) (gsz hsz (by decide)) (fun k => ((ra_166 k).1.trans (ra_19 k).1.symm)) e8
  have CM7 : gC sz M7 := gC.cpy CM5 (fun k => (ra_166 k).2.1) e8
  refine g_aload_n (n := 65) X 1 dX2_copyFrom_64 rfl rfl rfl ?_
  refine gg_2_4 (n := 68) (z := 20) X (by decide) (gsz hsz (by decide)) lay_15 kw_1_104 dX2_copyFrom_65 rfl (rf_15_4 IM7 (gsz hsz (by decide))) (by decide) ?_
  refine g_iconst (n := 69) X dX2_copyFrom_68 rfl ?_
  refine g_aload_n (n := 70) X 0 dX2_copyFrom_69 rfl rfl rfl ?_
  refine gg_2_4 (n := 73) (z := 167) X (by decide) (gsz hsz (by decide)) lay_162 kw_1_104 dX2_copyFrom_70 rfl (rf_162_4 IM7 (gsz hsz (by decide))) (by decide) ?_
  refine g_iconst (n := 74) X dX2_copyFrom_73 rfl ?_
  refine g_bipush (n := 76) X dX2_copyFrom_74 (by decide +kernel) rfl ?_
  refine g_acopyI (n := 79) X kw_5_169 kw_3_209 kw_3_208 kw_1_16 (by decide) (gsz hsz (by decide)) lay_20 (by decide) (gsz hsz (by decide)) lay_167 (by omega) (by omega) (by omega) (by omega) (Nat.le_of_ble_eq_true rfl) (Nat.le_of_ble_eq_true rfl) dX2_copyFrom_76 rfl ?_
  refine G.nm (fun M9 e10 => ?_)
  have IM9 : gI sz M9 := gI.cpy IM7 (by decide) (gsz hsz (by decide)) (fun k => ((ra_167 k).1.trans (ra_20 k).1.symm)) e10
  have CM9 : gC sz M9 := gC.cpy CM7 (fun k => (ra_167 k).2.1) e10
  refine g_aload_n (n := 80) X 1 dX2_copyFrom_79 rfl rfl rfl ?_
  refine gg_2_5 (n := 83) (z := 21) X (by decide) (gsz hsz (by decide)) lay_15 kw_1_105 dX2_copyFrom_80 rfl (rf_15_5 IM9 (gsz hsz (by decide))) (by decide) ?_
  refine g_iconst (n := 84) X dX2_copyFrom_83 rfl ?_
  refine g_aload_n (n := 85) X 0 dX2_copyFrom_84 rfl rfl rfl ?_
  refine gg_2_5 (n := 88) (z := 168) X (by decide) (gsz hsz (by decide)) lay_162 kw_1_105 dX2_copyFrom_85 rfl (rf_162_5 IM9 (gsz hsz (by decide))) (by decide) ?_
  refine g_iconst (n := 89) X dX2_copyFrom_88 rfl ?_
  refine g_bipush (n := 91) X dX2_copyFrom_89 (by decide +kernel) rfl ?_
  refine g_acopyI (n := 94) X kw_5_169 kw_3_209 kw_3_208 kw_1_16 (by decide) (gsz hsz (by decide)) lay_21 (by decide) (gsz hsz (by decide)) lay_168 (by omega) (by omega) (by omega) (by omega) (Nat.le_of_ble_eq_true rfl) (Nat.le_of_ble_eq_true rfl) dX2_copyFrom_91 rfl ?_
  refine G.nm (fun M11 e12 => ?_)
  have IM11 : gI sz M11 := gI.cpy IM9 (by decide) (gsz hsz (by decide)) (fun k => ((ra_168 k).1.trans (ra_21 k).1.symm)) e12
  have CM11 : gC sz M11 := gC.cpy CM9 (fun k => (ra_168 k).2.1) e12
  refine g_aload_n (n := 95) X 1 dX2_copyFrom_94 rfl rfl rfl ?_
  refine gg_2_6 (n := 98) (z := 22) X (by decide) (gsz hsz (by decide)) lay_15 kw_1_106 dX2_copyFrom_95 rfl (rf_15_6 IM11 (gsz hsz (by decide))) (by decide) ?_
  refine g_iconst (n := 99) X dX2_copyFrom_98 rfl ?_
  refine g_aload_n (n := 100) X 0 dX2_copyFrom_99 rfl rfl rfl ?_
  refine gg_2_6 (n := 103) (z := 169) X (by decide) (gsz hsz (by decide)) lay_162 kw_1_106 dX2_copyFrom_100 rfl (rf_162_6 IM11 (gsz hsz (by decide))) (by decide) ?_
  refine g_iconst (n := 104) X dX2_copyFrom_103 rfl ?_
  refine g_bipush (n := 106) X dX2_copyFrom_104 (by decide +kernel) rfl ?_
  refine g_acopyI (n := 109) X kw_5_169 kw_3_209 kw_3_208 kw_1_16 (by decide) (gsz hsz (by decide)) lay_22 (by decide) (gsz hsz (by decide)) lay_169 (by omega) (by omega) (by omega) (by omega) (Nat.le_of_ble_eq_true rfl) (Nat.le_of_ble_eq_true rfl) dX2_copyFrom_106 rfl ?_
  refine G.nm (fun M13 e14 => ?_)
  have IM13 : gI sz M13 := gI.cpy IM11 (by decide) (gsz hsz (by decide)) (fun k => ((ra_169 k).1.trans (ra_22 k).1.symm)) e14
  have CM13 : gC sz M13 := gC.cpy CM11 (fun k => (ra_169 k).2.1) e14
  refine g_aload_n (n := 110) X 0 dX2_copyFrom_109 rfl rfl rfl ?_
  refine g_aload_n (n := 111) X 1 dX2_copyFrom_110 rfl rfl rfl ?_
  obtain ⟨v15, hv15, rv15⟩ := gRd IM13 (by decide) (gsz hsz (by decide)) rc_15_7.1
  refine gg_2_7 (n := 114) (z := v15) X (by decide) (gsz hsz (by decide)) lay_15 kw_1_107 dX2_copyFrom_111 rfl hv15 ?_
  refine gp_2_7 (n := 117) X (by decide) (gsz hsz (by decide)) lay_162 kw_1_107 dX2_copyFrom_114 rfl ?_
  refine G.nm (fun M16 e17 => ?_)
  have IM16 : gI sz M16 := gI.set IM13 rc_162_7.1 (by omega) e17
  have CM16 : gC sz M16 := gC.set CM13 rc_162_7.2.1 e17
  refine g_aload_n (n := 118) X 0 dX2_copyFrom_117 rfl rfl rfl ?_
  refine g_aload_n (n := 119) X 1 dX2_copyFrom_118 rfl rfl rfl ?_
  obtain ⟨v18, hv18, rv18⟩ := gRd IM16 (by decide) (gsz hsz (by decide)) rc_15_8.1
  refine gg_2_8 (n := 122) (z := v18) X (by decide) (gsz hsz (by decide)) lay_15 kw_1_109 dX2_copyFrom_119 rfl hv18 ?_
  refine gp_2_8 (n := 125) X (by decide) (gsz hsz (by decide)) lay_162 kw_1_109 dX2_copyFrom_122 rfl ?_
  refine G.nm (fun M19 e20 => ?_)
  have IM19 : gI sz M19 := gI.set IM16 rc_162_8.1 (by omega) e20
  have CM19 : gC sz M19 := gC.set CM16 rc_162_8.2.1 e20
  refine g_aload_n (n := 126) X 0 dX2_copyFrom_125 rfl rfl rfl ?_
  refine g_aload_n (n := 127) X 1 dX2_copyFrom_126 rfl rfl rfl ?_
  obtain ⟨v21, hv21, rv21⟩ := gRd IM19 (by decide) (gsz hsz (by decide)) rc_15_9.1
  refine gg_2_9 (n := 130) (z := v21) X (by decide) (gsz hsz (by decide)) lay_15 kw_1_112 dX2_copyFrom_127 rfl hv21 ?_
  refine gp_2_9 (n := 133) X (by decide) (gsz hsz (by decide)) lay_162 kw_1_112 dX2_copyFrom_130 rfl ?_
  refine G.nm (fun M22 e23 => ?_)
  have IM22 : gI sz M22 := gI.set IM19 rc_162_9.1 (by omega) e23
  have CM22 : gC sz M22 := gC.set CM19 rc_162_9.2.1 e23
  exact hq _ _ _ dX2_copyFrom_133 ⟨IM22, CM22, (gFr.s (gFr.s (gFr.s (gFr.y (gFr.y (gFr.y (gFr.y (gFr.y (gFr.y (gFr.y gFr.rf e2 (fun k => (ra_163 k).2.2) rfl) e4 (fun k => (ra_164 k).2.2) rfl) e6 (fun k => (ra_165 k).2.2) rfl) e8 (fun k => (ra_166 k).2.2) rfl) e10 (fun k => (ra_167 k).2.2) rfl) e12 (fun k => (ra_168 k).2.2) rfl) e14 (fun k => (ra_169 k).2.2) rfl) e17 rc_162_7.2.2 rfl) e20 rc_162_8.2.2 rfl) e23 rc_162_9.2.2 rfl), ⟨(fun b h0 h1 => ((congrFun (congrFun e23 _) _).trans ((gset_ne (by omega)).trans ((congrFun (congrFun e20 _) _).trans ((gset_ne (by omega)).trans ((congrFun (congrFun e17 _) _).trans ((gset_ne (by omega)).trans ((congrFun (congrFun e14 _) _).trans ((gcpy_ne (by omega)).trans ((congrFun (congrFun e12 _) _).trans ((gcpy_ne (by omega)).trans ((congrFun (congrFun e10 _) _).trans ((gcpy_ne (by omega)).trans ((congrFun (congrFun e8 _) _).trans ((gcpy_ne (by omega)).trans ((congrFun (congrFun e6 _) _).trans ((gcpy_ne (by omega)).trans ((congrFun (congrFun e4 _) _).trans ((gcpy_ne (by omega)).trans ((congrFun (congrFun e2 _) _).trans ((gcpy_in (by omega)).trans rfl))))))))))))))))))))), (fun b h0 h1 => ((congrFun (congrFun e23 _) _).trans ((gset_ne (by omega)).trans ((congrFun (congrFun e20 _) _).trans ((gset_ne (by omega)).trans ((congrFun (congrFun e17 _) _).trans ((gset_ne (by omega)).trans ((congrFun (congrFun e14 _) _).trans ((gcpy_ne (by omega)).trans ((congrFun (congrFun e12 _) _).trans ((gcpy_ne (by omega)).trans ((congrFun (congrFun e10 _) _).trans ((gcpy_ne (by omega)).trans ((congrFun (congrFun e8 _) _).trans ((gcpy_ne (by omega)).trans ((congrFun (congrFun e6 _) _).trans ((gcpy_ne (by omega)).trans ((congrFun (congrFun e4 _) _).trans ((gcpy_in (by omega)).trans ((congrFun (congrFun e2 _) _).trans ((gcpy_ne (by omega)).trans rfl))))))))))))))))))))), (fun b h0 h1 => ((congrFun (congrFun e23 _) _).trans ((gset_ne (by omega)).trans ((congrFun (congrFun e20 _) _).trans ((gset_ne (by omega)).trans ((congrFun (congrFun e17 _) _).trans ((gset_ne (by omega)).trans ((congrFun (congrFun e14 _) _).trans ((gcpy_ne (by omega)).trans ((congrFun (congrFun e12 _) _).trans ((gcpy_ne (by omega)).trans ((congrFun (congrFun e10 _) _).trans ((gcpy_ne (by omega)).trans ((congrFun (congrFun e8 _) _).trans ((gcpy_ne (by omega)).trans ((congrFun (congrFun e6 _) _).trans ((gcpy_in (by omega)).trans ((congrFun (congrFun e4 _) _).trans ((gcpy_ne (by omega)).trans ((congrFun (congrFun e2 _) _).trans ((gcpy_ne (by omega)).trans rfl))))))))))))))))))))), (fun b h0 h1 => ((congrFun (congrFun e23 _) _).trans ((gset_ne (by omega)).trans ((congrFun (congrFun e20 _) _).trans ((gset_ne (by omega)).trans ((congrFun (congrFun e17 _) _).trans ((gset_ne (by omega)).trans ((congrFun (congrFun e14 _) _).trans ((gcpy_ne (by omega)).trans ((congrFun (congrFun e12 _) _).trans ((gcpy_ne (by omega)).trans ((congrFun (congrFun e10 _) _).trans ((gcpy_ne (by omega)).trans ((congrFun (congrFun e8 _) _).trans ((gcpy_in (by omega)).trans ((congrFun (congrFun e6 _) _).trans ((gcpy_ne (by omega)).trans ((congrFun (congrFun e4 _) _).trans ((gcpy_ne (by omega)).trans ((congrFun (congrFun e2 _) _).trans ((gcpy_ne (by omega)).trans rfl))))))))))))))))))))), (fun b h0 h1 => ((congrFun (congrFun e23 _) _).trans ((gset_ne (by omega)).trans ((congrFun (congrFun e20 _) _).trans ((gset_ne (by omega)).trans ((congrFun (congrFun e17 _) _).trans ((gset_ne (by omega)).trans ((congrFun (congrFun e14 _) _).trans ((gcpy_ne (by omega)).trans ((congrFun (congrFun e12 _) _).trans ((gcpy_ne (by omega)).trans ((congrFun (congrFun e10 _) _).trans ((gcpy_in (by omega)).trans ((congrFun (congrFun e8 _) _).trans ((gcpy_ne (by omega)).trans ((congrFun (congrFun e6 _) _).trans ((gcpy_ne (by omega)).trans ((congrFun (congrFun e4 _) _).trans ((gcpy_ne (by omega)).trans ((congrFun (congrFun e2 _) _).trans ((gcpy_ne (by omega)).trans rfl))))))))))))))))))))), (fun b h0 h1 => ((congrFun (congrFun e23 _) _).trans ((gset_ne (by omega)).trans ((congrFun (congrFun e20 _) _).trans ((gset_ne (by omega)).trans ((congrFun (congrFun e17 _) _).trans ((gset_ne (by omega)).trans ((congrFun (congrFun e14 _) _).trans ((gcpy_ne (by omega)).trans ((congrFun (congrFun e12 _) _).trans ((gcpy_in (by omega)).trans ((congrFun (congrFun e10 _) _).trans ((gcpy_ne (by omega)).trans ((congrFun (congrFun e8 _) _).trans ((gcpy_ne (by omega)).trans ((congrFun (congrFun e6 _) _).trans ((gcpy_ne (by omega)).trans ((congrFun (congrFun e4 _) _).trans ((gcpy_ne (by omega)).trans ((congrFun (congrFun e2 _) _).trans ((gcpy_ne (by omega)).trans rfl))))))))))))))))))))), (fun b h0 h1 => ((congrFun (congrFun e23 _) _).trans ((gset_ne (by omega)).trans ((congrFun (congrFun e20 _) _).trans ((gset_ne (by omega)).trans ((congrFun (congrFun e17 _) _).trans ((gset_ne (by omega)).trans ((congrFun (congrFun e14 _) _).trans ((gcpy_in (by omega)).trans ((congrFun (congrFun e12 _) _).trans ((gcpy_ne (by omega)).trans ((congrFun (congrFun e10 _) _).trans ((gcpy_ne (by omega)).trans ((congrFun (congrFun e8 _) _).trans ((gcpy_ne (by omega)).trans ((congrFun (congrFun e6 _) _).trans ((gcpy_ne (by omega)).trans ((congrFun (congrFun e4 _) _).trans ((gcpy_ne (by omega)).trans ((congrFun (congrFun e2 _) _).trans ((gcpy_ne (by omega)).trans rfl))))))))))))))))))))), (((congrFun (congrFun e23 _) _).trans ((gset_ne (by omega)).trans ((congrFun (congrFun e20 _) _).trans ((gset_ne (by omega)).trans ((congrFun (congrFun e17 _) _).trans (gset_eq _ _ _ _)))))).trans ((hv15 : M13 15 7 = v15).symm.trans ((congrFun (congrFun e14 _) _).trans ((gcpy_ne (by omega)).trans ((congrFun (congrFun e12 _) _).trans ((gcpy_ne (by omega)).trans ((congrFun (congrFun e10 _) _).trans ((gcpy_ne (by omega)).trans ((congrFun (congrFun e8 _) _).trans ((gcpy_ne (by omega)).trans ((congrFun (congrFun e6 _) _).trans ((gcpy_ne (by omega)).trans ((congrFun (congrFun e4 _) _).trans ((gcpy_ne (by omega)).trans ((congrFun (congrFun e2 _) _).trans ((gcpy_ne (by omega)).trans rfl)))))))))))))))), (((congrFun (congrFun e23 _) _).trans ((gset_ne (by omega)).trans ((congrFun (congrFun e20 _) _).trans (gset_eq _ _ _ _)))).trans ((hv18 : M16 15 8 = v18).symm.trans ((congrFun (congrFun e17 _) _).trans ((gset_ne (by omega)).trans ((congrFun (congrFun e14 _) _).trans ((gcpy_ne (by omega)).trans ((congrFun (congrFun e12 _) _).trans ((gcpy_ne (by omega)).trans ((congrFun (congrFun e10 _) _).trans ((gcpy_ne (by omega)).trans ((congrFun (congrFun e8 _) _).trans ((gcpy_ne (by omega)).trans ((congrFun (congrFun e6 _) _).trans ((gcpy_ne (by omega)).trans ((congrFun (congrFun e4 _) _).trans ((gcpy_ne (by omega)).trans ((congrFun (congrFun e2 _) _).trans ((gcpy_ne (by omega)).trans rfl)))))))))))))))))), (((congrFun (congrFun e23 _) _).trans (gset_eq _ _ _ _)).trans ((hv21 : M19 15 9 = v21).symm.trans ((congrFun (congrFun e20 _) _).trans ((gset_ne (by omega)).trans ((congrFun (congrFun e17 _) _).trans ((gset_ne (by omega)).trans ((congrFun (congrFun e14 _) _).trans ((gcpy_ne (by omega)).trans ((congrFun (congrFun e12 _) _).trans ((gcpy_ne (by omega)).trans ((congrFun (congrFun e10 _) _).trans ((gcpy_ne (by omega)).trans ((congrFun (congrFun e8 _) _).trans ((gcpy_ne (by omega)).trans ((congrFun (congrFun e6 _) _).trans ((gcpy_ne (by omega)).trans ((congrFun (congrFun e4 _) _).trans ((gcpy_ne (by omega)).trans ((congrFun (congrFun e2 _) _).trans ((gcpy_ne (by omega)).trans rfl))))))))))))))))))))⟩⟩
abbrev R_s_X2_copyFrom_15_162 : Room := { frames := 4, cells := 0, slots := 0, locals := 120 }
set_option maxRecDepth 100000 in
set_option maxHeartbeats 4000000 in
theorem s_X2_copyFrom_15_162 {l : Launch} {n0 : Nat} {D : va_G} {cA : Nat → ClassId} {M : gM}  {sz : Nat} (hsz : 206 ≤ sz) (I : gI sz M) (C : gC sz M)   : Met l yX2_copyFrom (gWsOf yX2_copyFrom cX2_copyFrom 2 (Option.none : Option Jvm.ClassFile.FieldType)) R_s_X2_copyFrom_15_162 (gPc n0 D cA [gA n0 15, gA n0 162] M sz) (gQv n0 D cA sz (fun M1 => gI sz M1 ∧ gC sz M1 ∧ gFr 63488 M M1 ∧ ((∀ b : Int, 0 ≤ b → b < 4 → M1 16 b = M 163 b) ∧ (∀ b : Int, 0 ≤ b → b < 301 → M1 17 b = M 164 b) ∧ (∀ b : Int, 0 ≤ b → b < 3 → M1 18 b = M 165 b) ∧ (∀ b : Int, 0 ≤ b → b < 30 → M1 19 b = M 166 b) ∧ (∀ b : Int, 0 ≤ b → b < 6 → M1 20 b = M 167 b) ∧ (∀ b : Int, 0 ≤ b → b < 6 → M1 21 b = M 168 b) ∧ (∀ b : Int, 0 ≤ b → b < 6 → M1 22 b = M 169 b) ∧ M1 15 7 = M 162 7 ∧ M1 15 8 = M 162 8 ∧ M1 15 9 = M 162 9))) 0 0 (fun q => n0 ≤ q) := by
  refine gMetV [gA n0 15, gA n0 162] (by decide) (Nat.le_of_ble_eq_true rfl) ⟨rfl, rfl⟩ ?_
  intro p e s m args below meth cd Q X hq
  have X : gCx p s m args meth cd n0 D cA "ParishUnion$House" cX2_copyFrom 2 := X
  show G p l e R_s_X2_copyFrom_15_162 s m args below meth cd n0 D cA 2 Q 0 0 M sz 0 [(0, gA n0 15), (1, gA n0 162)] []
  refine g_aload_n (n := 1) X 1 dX2_copyFrom_0 rfl rfl rfl ?_
  refine gg_2_0 (n := 4) (z := 163) X (by decide) (gsz hsz (by decide)) lay_162 kw_1_95 dX2_copyFrom_1 rfl (rf_162_0 I (gsz hsz (by decide))) (by decide) ?_
  refine g_iconst (n := 5) X dX2_copyFrom_4 rfl ?_
  refine g_aload_n (n := 6) X 0 dX2_copyFrom_5 rfl rfl rfl ?_
  refine gg_2_0 (n := 9) (z := 16) X (by decide) (gsz hsz (by decide)) lay_15 kw_1_95 dX2_copyFrom_6 rfl (rf_15_0 I (gsz hsz (by decide))) (by decide) ?_
  refine g_iconst (n := 10) X dX2_copyFrom_9 rfl ?_
  refine g_iconst (n := 11) X dX2_copyFrom_10 rfl ?_
  refine g_acopyI (n := 14) X kw_5_169 kw_3_209 kw_3_208 kw_1_16 (by decide) (gsz hsz (by decide)) lay_163 (by decide) (gsz hsz (by decide)) lay_16 (by omega) (by omega) (by omega) (by omega) (Nat.le_of_ble_eq_true rfl) (Nat.le_of_ble_eq_true rfl) dX2_copyFrom_11 rfl ?_
  refine G.nm (fun M1 e2 => ?_)
  have IM1 : gI sz M1 := gI.cpy I (by decide) (gsz hsz (by decide)) (fun k => ((ra_16 k).1.trans (ra_163 k).1.symm)) e2
  have CM1 : gC sz M1 := gC.cpy C (fun k => (ra_16 k).2.1) e2
  refine g_aload_n (n := 15) X 1 dX2_copyFrom_14 rfl rfl rfl ?_
  refine gg_2_1 (n := 18) (z := 164) X (by decide) (gsz hsz (by decide)) lay_162 kw_1_98 dX2_copyFrom_15 rfl (rf_162_1 IM1 (gsz hsz (by decide))) (by decide) ?_
  refine g_iconst (n := 19) X dX2_copyFrom_18 rfl ?_
  refine g_aload_n (n := 20) X 0 dX2_copyFrom_19 rfl rfl rfl ?_
  refine gg_2_1 (n := 23) (z := 17) X (by decide) (gsz hsz (by decide)) lay_15 kw_1_98 dX2_copyFrom_20 rfl (rf_15_1 IM1 (gsz hsz (by decide))) (by decide) ?_
  refine g_iconst (n := 24) X dX2_copyFrom_23 rfl ?_
  refine g_aload_n (n := 25) X 0 dX2_copyFrom_24 rfl rfl rfl ?_
  refine gg_2_1 (n := 28) (z := 17) X (by decide) (gsz hsz (by decide)) lay_15 kw_1_98 dX2_copyFrom_25 rfl (rf_15_1 IM1 (gsz hsz (by decide))) (by decide) ?_
  refine g_aleni (n := 29) (z := 301) X (by decide) (gsz hsz (by decide)) lay_17 (by decide +kernel) dX2_copyFrom_28 rfl ?_
  refine g_acopyI (n := 32) X kw_5_169 kw_3_209 kw_3_208 kw_1_16 (by decide) (gsz hsz (by decide)) lay_164 (by decide) (gsz hsz (by decide)) lay_17 (by omega) (by omega) (by omega) (by omega) (Nat.le_of_ble_eq_true rfl) (Nat.le_of_ble_eq_true rfl) dX2_copyFrom_29 rfl ?_
  refine G.nm (fun M3 e4 => ?_)
  have IM3 : gI sz M3 := gI.cpy IM1 (by decide) (gsz hsz (by decide)) (fun k => ((ra_17 k).1.trans (ra_164 k).1.symm)) e4
  have CM3 : gC sz M3 := gC.cpy CM1 (fun k => (ra_17 k).2.1) e4
  refine g_aload_n (n := 33) X 1 dX2_copyFrom_32 rfl rfl rfl ?_
  refine gg_2_2 (n := 36) (z := 165) X (by decide) (gsz hsz (by decide)) lay_162 kw_1_101 dX2_copyFrom_33 rfl (rf_162_2 IM3 (gsz hsz (by decide))) (by decide) ?_
  refine g_iconst (n := 37) X dX2_copyFrom_36 rfl ?_
  refine g_aload_n (n := 38) X 0 dX2_copyFrom_37 rfl rfl rfl ?_
  refine gg_2_2 (n := 41) (z := 18) X (by decide) (gsz hsz (by decide)) lay_15 kw_1_101 dX2_copyFrom_38 rfl (rf_15_2 IM3 (gsz hsz (by decide))) (by decide) ?_
  refine g_iconst (n := 42) X dX2_copyFrom_41 rfl ?_
  refine g_iconst (n := 43) X dX2_copyFrom_42 rfl ?_
  refine g_acopyI (n := 46) X kw_5_169 kw_3_209 kw_3_208 kw_1_16 (by decide) (gsz hsz (by decide)) lay_165 (by decide) (gsz hsz (by decide)) lay_18 (by omega) (by omega) (by omega) (by omega) (Nat.le_of_ble_eq_true rfl) (Nat.le_of_ble_eq_true rfl) dX2_copyFrom_43 rfl ?_
  refine G.nm (fun M5 e6 => ?_)
  have IM5 : gI sz M5 := gI.cpy IM3 (by decide) (gsz hsz (by decide)) (fun k => ((ra_18 k).1.trans (ra_165 k).1.symm)) e6
  have CM5 : gC sz M5 := gC.cpy CM3 (fun k => (ra_18 k).2.1) e6
  refine g_aload_n (n := 47) X 1 dX2_copyFrom_46 rfl rfl rfl ?_
  refine gg_2_3 (n := 50) (z := 166) X (by decide) (gsz hsz (by decide)) lay_162 kw_1_103 dX2_copyFrom_47 rfl (rf_162_3 IM5 (gsz hsz (by decide))) (by decide) ?_
  refine g_iconst (n := 51) X dX2_copyFrom_50 rfl ?_
  refine g_aload_n (n := 52) X 0 dX2_copyFrom_51 rfl rfl rfl ?_
  refine gg_2_3 (n := 55) (z := 19) X (by decide) (gsz hsz (by decide)) lay_15 kw_1_103 dX2_copyFrom_52 rfl (rf_15_3 IM5 (gsz hsz (by decide))) (by decide) ?_
  refine g_iconst (n := 56) X dX2_copyFrom_55 rfl ?_
  refine g_aload_n (n := 57) X 0 dX2_copyFrom_56 rfl rfl rfl ?_
  refine gg_2_3 (n := 60) (z := 19) X (by decide) (gsz hsz (by decide)) lay_15 kw_1_103 dX2_copyFrom_57 rfl (rf_15_3 IM5 (gsz hsz (by decide))) (by decide) ?_
  refine g_aleni (n := 61) (z := 30) X (by decide) (gsz hsz (by decide)) lay_19 (by decide +kernel) dX2_copyFrom_60 rfl ?_
  refine g_acopyI (n := 64) X kw_5_169 kw_3_209 kw_3_208 kw_1_16 (by decide) (gsz hsz (by decide)) lay_166 (by decide) (gsz hsz (by decide)) lay_19 (by omega) (by omega) (by omega) (by omega) (Nat.le_of_ble_eq_true rfl) (Nat.le_of_ble_eq_true rfl) dX2_copyFrom_61 rfl ?_
  refine G.nm (fun M7 e8 => ?_)
  have IM7 : gI sz M7 := gI.cpy IM5 (by decide) (gsz hsz (by decide)) (fun k => ((ra_19 k).1.trans (ra_166 k).1.symm)) e8
  have CM7 : gC sz M7 := gC.cpy CM5 (fun k => (ra_19 k).2.1) e8
  refine g_aload_n (n := 65) X 1 dX2_copyFrom_64 rfl rfl rfl ?_
  refine gg_2_4 (n := 68) (z := 167) X (by decide) (gsz hsz (by decide)) lay_162 kw_1_104 dX2_copyFrom_65 rfl (rf_162_4 IM7 (gsz hsz (by decide))) (by decide) ?_
  refine g_iconst (n := 69) X dX2_copyFrom_68 rfl ?_
  refine g_aload_n (n := 70) X 0 dX2_copyFrom_69 rfl rfl rfl ?_
  refine gg_2_4 (n := 73) (z := 20) X (by decide) (gsz hsz (by decide)) lay_15 kw_1_104 dX2_copyFrom_70 rfl (rf_15_4 IM7 (gsz hsz (by decide))) (by decide) ?_
  refine g_iconst (n := 74) X dX2_copyFrom_73 rfl ?_
  refine g_bipush (n := 76) X dX2_copyFrom_74 (by decide +kernel) rfl ?_
  refine g_acopyI (n := 79) X kw_5_169 kw_3_209 kw_3_208 kw_1_16 (by decide) (gsz hsz (by decide)) lay_167 (by decide) (gsz hsz (by decide)) lay_20 (by omega) (by omega) (by omega) (by omega) (Nat.le_of_ble_eq_true rfl) (Nat.le_of_ble_eq_true rfl) dX2_copyFrom_76 rfl ?_
  refine G.nm (fun M9 e10 => ?_)
  have IM9 : gI sz M9 := gI.cpy IM7 (by decide) (gsz hsz (by decide)) (fun k => ((ra_20 k).1.trans (ra_167 k).1.symm)) e10
  have CM9 : gC sz M9 := gC.cpy CM7 (fun k => (ra_20 k).2.1) e10
  refine g_aload_n (n := 80) X 1 dX2_copyFrom_79 rfl rfl rfl ?_
  refine gg_2_5 (n := 83) (z := 168) X (by decide) (gsz hsz (by decide)) lay_162 kw_1_105 dX2_copyFrom_80 rfl (rf_162_5 IM9 (gsz hsz (by decide))) (by decide) ?_
  refine g_iconst (n := 84) X dX2_copyFrom_83 rfl ?_
  refine g_aload_n (n := 85) X 0 dX2_copyFrom_84 rfl rfl rfl ?_
  refine gg_2_5 (n := 88) (z := 21) X (by decide) (gsz hsz (by decide)) lay_15 kw_1_105 dX2_copyFrom_85 rfl (rf_15_5 IM9 (gsz hsz (by decide))) (by decide) ?_
  refine g_iconst (n := 89) X dX2_copyFrom_88 rfl ?_
  refine g_bipush (n := 91) X dX2_copyFrom_89 (by decide +kernel) rfl ?_
  refine g_acopyI (n := 94) X kw_5_169 kw_3_209 kw_3_208 kw_1_16 (by decide) (gsz hsz (by decide)) lay_168 (by decide) (gsz hsz (by decide)) lay_21 (by omega) (by omega) (by omega) (by omega) (Nat.le_of_ble_eq_true rfl) (Nat.le_of_ble_eq_true rfl) dX2_copyFrom_91 rfl ?_
  refine G.nm (fun M11 e12 => ?_)
  have IM11 : gI sz M11 := gI.cpy IM9 (by decide) (gsz hsz (by decide)) (fun k => ((ra_21 k).1.trans (ra_168 k).1.symm)) e12
  have CM11 : gC sz M11 := gC.cpy CM9 (fun k => (ra_21 k).2.1) e12
  refine g_aload_n (n := 95) X 1 dX2_copyFrom_94 rfl rfl rfl ?_
  refine gg_2_6 (n := 98) (z := 169) X (by decide) (gsz hsz (by decide)) lay_162 kw_1_106 dX2_copyFrom_95 rfl (rf_162_6 IM11 (gsz hsz (by decide))) (by decide) ?_
  refine g_iconst (n := 99) X dX2_copyFrom_98 rfl ?_
  refine g_aload_n (n := 100) X 0 dX2_copyFrom_99 rfl rfl rfl ?_
  refine gg_2_6 (n := 103) (z := 22) X (by decide) (gsz hsz (by decide)) lay_15 kw_1_106 dX2_copyFrom_100 rfl (rf_15_6 IM11 (gsz hsz (by decide))) (by decide) ?_
  refine g_iconst (n := 104) X dX2_copyFrom_103 rfl ?_
  refine g_bipush (n := 106) X dX2_copyFrom_104 (by decide +kernel) rfl ?_
  refine g_acopyI (n := 109) X kw_5_169 kw_3_209 kw_3_208 kw_1_16 (by decide) (gsz hsz (by decide)) lay_169 (by decide) (gsz hsz (by decide)) lay_22 (by omega) (by omega) (by omega) (by omega) (Nat.le_of_ble_eq_true rfl) (Nat.le_of_ble_eq_true rfl) dX2_copyFrom_106 rfl ?_
  refine G.nm (fun M13 e14 => ?_)
  have IM13 : gI sz M13 := gI.cpy IM11 (by decide) (gsz hsz (by decide)) (fun k => ((ra_22 k).1.trans (ra_169 k).1.symm)) e14
  have CM13 : gC sz M13 := gC.cpy CM11 (fun k => (ra_22 k).2.1) e14
  refine g_aload_n (n := 110) X 0 dX2_copyFrom_109 rfl rfl rfl ?_
  refine g_aload_n (n := 111) X 1 dX2_copyFrom_110 rfl rfl rfl ?_
  obtain ⟨v15, hv15, rv15⟩ := gRd IM13 (by decide) (gsz hsz (by decide)) rc_162_7.1
  refine gg_2_7 (n := 114) (z := v15) X (by decide) (gsz hsz (by decide)) lay_162 kw_1_107 dX2_copyFrom_111 rfl hv15 ?_
  refine gp_2_7 (n := 117) X (by decide) (gsz hsz (by decide)) lay_15 kw_1_107 dX2_copyFrom_114 rfl ?_
  refine G.nm (fun M16 e17 => ?_)
  have IM16 : gI sz M16 := gI.set IM13 rc_15_7.1 (by omega) e17
  have CM16 : gC sz M16 := gC.set CM13 rc_15_7.2.1 e17
  refine g_aload_n (n := 118) X 0 dX2_copyFrom_117 rfl rfl rfl ?_
  refine g_aload_n (n := 119) X 1 dX2_copyFrom_118 rfl rfl rfl ?_
  obtain ⟨v18, hv18, rv18⟩ := gRd IM16 (by decide) (gsz hsz (by decide)) rc_162_8.1
  refine gg_2_8 (n := 122) (z := v18) X (by decide) (gsz hsz (by decide)) lay_162 kw_1_109 dX2_copyFrom_119 rfl hv18 ?_
  refine gp_2_8 (n := 125) X (by decide) (gsz hsz (by decide)) lay_15 kw_1_109 dX2_copyFrom_122 rfl ?_
  refine G.nm (fun M19 e20 => ?_)
  have IM19 : gI sz M19 := gI.set IM16 rc_15_8.1 (by omega) e20
  have CM19 : gC sz M19 := gC.set CM16 rc_15_8.2.1 e20
  refine g_aload_n (n := 126) X 0 dX2_copyFrom_125 rfl rfl rfl ?_
  refine g_aload_n (n := 127) X 1 dX2_copyFrom_126 rfl rfl rfl ?_
  obtain ⟨v21, hv21, rv21⟩ := gRd IM19 (by decide) (gsz hsz (by decide)) rc_162_9.1
  refine gg_2_9 (n := 130) (z := v21) X (by decide) (gsz hsz (by decide)) lay_162 kw_1_112 dX2_copyFrom_127 rfl hv21 ?_
  refine gp_2_9 (n := 133) X (by decide) (gsz hsz (by decide)) lay_15 kw_1_112 dX2_copyFrom_130 rfl ?_
  refine G.nm (fun M22 e23 => ?_)
  have IM22 : gI sz M22 := gI.set IM19 rc_15_9.1 (by omega) e23
  have CM22 : gC sz M22 := gC.set CM19 rc_15_9.2.1 e23
  exact hq _ _ _ dX2_copyFrom_133 ⟨IM22, CM22, (gFr.s (gFr.s (gFr.s (gFr.y (gFr.y (gFr.y (gFr.y (gFr.y (gFr.y (gFr.y gFr.rf e2 (fun k => (ra_16 k).2.2) rfl) e4 (fun k => (ra_17 k).2.2) rfl) e6 (fun k => (ra_18 k).2.2) rfl) e8 (fun k => (ra_19 k).2.2) rfl) e10 (fun k => (ra_20 k).2.2) rfl) e12 (fun k => (ra_21 k).2.2) rfl) e14 (fun k => (ra_22 k).2.2) rfl) e17 rc_15_7.2.2 rfl) e20 rc_15_8.2.2 rfl) e23 rc_15_9.2.2 rfl), ⟨(fun b h0 h1 => ((congrFun (congrFun e23 _) _).trans ((gset_ne (by omega)).trans ((congrFun (congrFun e20 _) _).trans ((gset_ne (by omega)).trans ((congrFun (congrFun e17 _) _).trans ((gset_ne (by omega)).trans ((congrFun (congrFun e14 _) _).trans ((gcpy_ne (by omega)).trans ((congrFun (congrFun e12 _) _).trans ((gcpy_ne (by omega)).trans ((congrFun (congrFun e10 _) _).trans ((gcpy_ne (by omega)).trans ((congrFun (congrFun e8 _) _).trans ((gcpy_ne (by omega)).trans ((congrFun (congrFun e6 _) _).trans ((gcpy_ne (by omega)).trans ((congrFun (congrFun e4 _) _).trans ((gcpy_ne (by omega)).trans ((congrFun (congrFun e2 _) _).trans ((gcpy_in (by omega)).trans rfl))))))))))))))))))))), (fun b h0 h1 => ((congrFun (congrFun e23 _) _).trans ((gset_ne (by omega)).trans ((congrFun (congrFun e20 _) _).trans ((gset_ne (by omega)).trans ((congrFun (congrFun e17 _) _).trans ((gset_ne (by omega)).trans ((congrFun (congrFun e14 _) _).trans ((gcpy_ne (by omega)).trans ((congrFun (congrFun e12 _) _).trans ((gcpy_ne (by omega)).trans ((congrFun (congrFun e10 _) _).trans ((gcpy_ne (by omega)).trans ((congrFun (congrFun e8 _) _).trans ((gcpy_ne (by omega)).trans ((congrFun (congrFun e6 _) _).trans ((gcpy_ne (by omega)).trans ((congrFun (congrFun e4 _) _).trans ((gcpy_in (by omega)).trans ((congrFun (congrFun e2 _) _).trans ((gcpy_ne (by omega)).trans rfl))))))))))))))))))))), (fun b h0 h1 => ((congrFun (congrFun e23 _) _).trans ((gset_ne (by omega)).trans ((congrFun (congrFun e20 _) _).trans ((gset_ne (by omega)).trans ((congrFun (congrFun e17 _) _).trans ((gset_ne (by omega)).trans ((congrFun (congrFun e14 _) _).trans ((gcpy_ne (by omega)).trans ((congrFun (congrFun e12 _) _).trans ((gcpy_ne (by omega)).trans ((congrFun (congrFun e10 _) _).trans ((gcpy_ne (by omega)).trans ((congrFun (congrFun e8 _) _).trans ((gcpy_ne (by omega)).trans ((congrFun (congrFun e6 _) _).trans ((gcpy_in (by omega)).trans ((congrFun (congrFun e4 _) _).trans ((gcpy_ne (by omega)).trans ((congrFun (congrFun e2 _) _).trans ((gcpy_ne (by omega)).trans rfl))))))))))))))))))))), (fun b h0 h1 => ((congrFun (congrFun e23 _) _).trans ((gset_ne (by omega)).trans ((congrFun (congrFun e20 _) _).trans ((gset_ne (by omega)).trans ((congrFun (congrFun e17 _) _).trans ((gset_ne (by omega)).trans ((congrFun (congrFun e14 _) _).trans ((gcpy_ne (by omega)).trans ((congrFun (congrFun e12 _) _).trans ((gcpy_ne (by omega)).trans ((congrFun (congrFun e10 _) _).trans ((gcpy_ne (by omega)).trans ((congrFun (congrFun e8 _) _).trans ((gcpy_in (by omega)).trans ((congrFun (congrFun e6 _) _).trans ((gcpy_ne (by omega)).trans ((congrFun (congrFun e4 _) _).trans ((gcpy_ne (by omega)).trans ((congrFun (congrFun e2 _) _).trans ((gcpy_ne (by omega)).trans rfl))))))))))))))))))))), (fun b h0 h1 => ((congrFun (congrFun e23 _) _).trans ((gset_ne (by omega)).trans ((congrFun (congrFun e20 _) _).trans ((gset_ne (by omega)).trans ((congrFun (congrFun e17 _) _).trans ((gset_ne (by omega)).trans ((congrFun (congrFun e14 _) _).trans ((gcpy_ne (by omega)).trans ((congrFun (congrFun e12 _) _).trans ((gcpy_ne (by omega)).trans ((congrFun (congrFun e10 _) _).trans ((gcpy_in (by omega)).trans ((congrFun (congrFun e8 _) _).trans ((gcpy_ne (by omega)).trans ((congrFun (congrFun e6 _) _).trans ((gcpy_ne (by omega)).trans ((congrFun (congrFun e4 _) _).trans ((gcpy_ne (by omega)).trans ((congrFun (congrFun e2 _) _).trans ((gcpy_ne (by omega)).trans rfl))))))))))))))))))))), (fun b h0 h1 => ((congrFun (congrFun e23 _) _).trans ((gset_ne (by omega)).trans ((congrFun (congrFun e20 _) _).trans ((gset_ne (by omega)).trans ((congrFun (congrFun e17 _) _).trans ((gset_ne (by omega)).trans ((congrFun (congrFun e14 _) _).trans ((gcpy_ne (by omega)).trans ((congrFun (congrFun e12 _) _).trans ((gcpy_in (by omega)).trans ((congrFun (congrFun e10 _) _).trans ((gcpy_ne (by omega)).trans ((congrFun (congrFun e8 _) _).trans ((gcpy_ne (by omega)).trans ((congrFun (congrFun e6 _) _).trans ((gcpy_ne (by omega)).trans ((congrFun (congrFun e4 _) _).trans ((gcpy_ne (by omega)).trans ((congrFun (congrFun e2 _) _).trans ((gcpy_ne (by omega)).trans rfl))))))))))))))))))))), (fun b h0 h1 => ((congrFun (congrFun e23 _) _).trans ((gset_ne (by omega)).trans ((congrFun (congrFun e20 _) _).trans ((gset_ne (by omega)).trans ((congrFun (congrFun e17 _) _).trans ((gset_ne (by omega)).trans ((congrFun (congrFun e14 _) _).trans ((gcpy_in (by omega)).trans ((congrFun (congrFun e12 _) _).trans ((gcpy_ne (by omega)).trans ((congrFun (congrFun e10 _) _).trans ((gcpy_ne (by omega)).trans ((congrFun (congrFun e8 _) _).trans ((gcpy_ne (by omega)).trans ((congrFun (congrFun e6 _) _).trans ((gcpy_ne (by omega)).trans ((congrFun (congrFun e4 _) _).trans ((gcpy_ne (by omega)).trans ((congrFun (congrFun e2 _) _).trans ((gcpy_ne (by omega)).trans rfl))))))))))))))))))))), (((congrFun (congrFun e23 _) _).trans ((gset_ne (by omega)).trans ((congrFun (congrFun e20 _) _).trans ((gset_ne (by omega)).trans ((congrFun (congrFun e17 _) _).trans (gset_eq _ _ _ _)))))).trans ((hv15 : M13 162 7 = v15).symm.trans ((congrFun (congrFun e14 _) _).trans ((gcpy_ne (by omega)).trans ((congrFun (congrFun e12 _) _).trans ((gcpy_ne (by omega)).trans ((congrFun (congrFun e10 _) _).trans ((gcpy_ne (by omega)).trans ((congrFun (congrFun e8 _) _).trans ((gcpy_ne (by omega)).trans ((congrFun (congrFun e6 _) _).trans ((gcpy_ne (by omega)).trans ((congrFun (congrFun e4 _) _).trans ((gcpy_ne (by omega)).trans ((congrFun (congrFun e2 _) _).trans ((gcpy_ne (by omega)).trans rfl)))))))))))))))), (((congrFun (congrFun e23 _) _).trans ((gset_ne (by omega)).trans ((congrFun (congrFun e20 _) _).trans (gset_eq _ _ _ _)))).trans ((hv18 : M16 162 8 = v18).symm.trans ((congrFun (congrFun e17 _) _).trans ((gset_ne (by omega)).trans ((congrFun (congrFun e14 _) _).trans ((gcpy_ne (by omega)).trans ((congrFun (congrFun e12 _) _).trans ((gcpy_ne (by omega)).trans ((congrFun (congrFun e10 _) _).trans ((gcpy_ne (by omega)).trans ((congrFun (congrFun e8 _) _).trans ((gcpy_ne (by omega)).trans ((congrFun (congrFun e6 _) _).trans ((gcpy_ne (by omega)).trans ((congrFun (congrFun e4 _) _).trans ((gcpy_ne (by omega)).trans ((congrFun (congrFun e2 _) _).trans ((gcpy_ne (by omega)).trans rfl)))))))))))))))))), (((congrFun (congrFun e23 _) _).trans (gset_eq _ _ _ _)).trans ((hv21 : M19 162 9 = v21).symm.trans ((congrFun (congrFun e20 _) _).trans ((gset_ne (by omega)).trans ((congrFun (congrFun e17 _) _).trans ((gset_ne (by omega)).trans ((congrFun (congrFun e14 _) _).trans ((gcpy_ne (by omega)).trans ((congrFun (congrFun e12 _) _).trans ((gcpy_ne (by omega)).trans ((congrFun (congrFun e10 _) _).trans ((gcpy_ne (by omega)).trans ((congrFun (congrFun e8 _) _).trans ((gcpy_ne (by omega)).trans ((congrFun (congrFun e6 _) _).trans ((gcpy_ne (by omega)).trans ((congrFun (congrFun e4 _) _).trans ((gcpy_ne (by omega)).trans ((congrFun (congrFun e2 _) _).trans ((gcpy_ne (by omega)).trans rfl))))))))))))))))))))⟩⟩
theorem rf_220_0 {sz : Nat} {M : gM} (I : gI sz M) (h : (220 : Int) < (sz : Int)) : M 220 0 = 221 + 1 := gI.rf I (by decide) h (by decide +kernel)
theorem ra_221 (k : Int) : gRg 221 k = (-2147483648, 2147483647) ∧ gCr 221 k = false ∧ gG 221 k = 80 := ⟨rfl, rfl, rfl⟩
theorem rf_220_1 {sz : Nat} {M : gM} (I : gI sz M) (h : (220 : Int) < (sz : Int)) : M 220 1 = 222 + 1 := gI.rf I (by decide) h (by decide +kernel)
theorem ra_222 (k : Int) : gRg 222 k = (-2147483648, 2147483647) ∧ gCr 222 k = false ∧ gG 222 k = 80 := ⟨rfl, rfl, rfl⟩
theorem rf_220_2 {sz : Nat} {M : gM} (I : gI sz M) (h : (220 : Int) < (sz : Int)) : M 220 2 = 223 + 1 := gI.rf I (by decide) h (by decide +kernel)
theorem ra_223 (k : Int) : gRg 223 k = (0, 10) ∧ gCr 223 k = false ∧ gG 223 k = 80 := ⟨rfl, rfl, rfl⟩
theorem rf_220_3 {sz : Nat} {M : gM} (I : gI sz M) (h : (220 : Int) < (sz : Int)) : M 220 3 = 224 + 1 := gI.rf I (by decide) h (by decide +kernel)
theorem ra_224 (k : Int) : gRg 224 k = (-2147483648, 2147483647) ∧ gCr 224 k = false ∧ gG 224 k = 80 := ⟨rfl, rfl, rfl⟩
theorem rf_220_4 {sz : Nat} {M : gM} (I : gI sz M) (h : (220 : Int) < (sz : Int)) : M 220 4 = 225 + 1 := gI.rf I (by decide) h (by decide +kernel)
theorem ra_225 (k : Int) : gRg 225 k = (0, 4) ∧ gCr 225 k = false ∧ gG 225 k = 80 := ⟨rfl, rfl, rfl⟩
theorem rf_220_5 {sz : Nat} {M : gM} (I : gI sz M) (h : (220 : Int) < (sz : Int)) : M 220 5 = 226 + 1 := gI.rf I (by decide) h (by decide +kernel)
theorem ra_226 (k : Int) : gRg 226 k = (-2147483648, 2147483647) ∧ gCr 226 k = false ∧ gG 226 k = 80 := ⟨rfl, rfl, rfl⟩
theorem rf_220_6 {sz : Nat} {M : gM} (I : gI sz M) (h : (220 : Int) < (sz : Int)) : M 220 6 = 227 + 1 := gI.rf I (by decide) h (by decide +kernel)
theorem ra_227 (k : Int) : gRg 227 k = (-2147483648, 2147483647) ∧ gCr 227 k = false ∧ gG 227 k = 80 := ⟨rfl, rfl, rfl⟩
theorem rc_220_7 : gRg 220 7 = (0, 6) ∧ gCr 220 7 = false ∧ gG 220 7 = 80 := by decide +kernel
theorem rc_220_8 : gRg 220 8 = (-2147483648, 2147483647) ∧ gCr 220 8 = false ∧ gG 220 8 = 80 := by decide +kernel
theorem rc_220_9 : gRg 220 9 = (-2147483648, 2147483647) ∧ gCr 220 9 = false ∧ gG 220 9 = 80 := by decide +kernel
abbrev R_s_X2_copyFrom_220_15 : Room := { frames := 4, cells := 0, slots := 0, locals := 120 }
set_option maxRecDepth 100000 in
set_option maxHeartbeats 4000000 in
theorem s_X2_copyFrom_220_15 {l : Launch} {n0 : Nat} {D : va_G} {cA : Nat → ClassId} {M : gM}  {sz : Nat} (hsz : 206 ≤ sz) (I : gI sz M) (C : gC sz M) (hsz8 : sz = 358)  : Met l yX2_copyFrom (gWsOf yX2_copyFrom cX2_copyFrom 2 (Option.none : Option Jvm.ClassFile.FieldType)) R_s_X2_copyFrom_220_15 (gPc n0 D cA [gA n0 220, gA n0 15] M sz) (gQv n0 D cA sz (fun M1 => gI sz M1 ∧ gC sz M1 ∧ gFr 1208925819614629174706176 M M1 ∧ ((∀ b : Int, 0 ≤ b → b < 4 → M1 221 b = M 16 b) ∧ (∀ b : Int, 0 ≤ b → b < 301 → M1 222 b = M 17 b) ∧ (∀ b : Int, 0 ≤ b → b < 3 → M1 223 b = M 18 b) ∧ (∀ b : Int, 0 ≤ b → b < 30 → M1 224 b = M 19 b) ∧ (∀ b : Int, 0 ≤ b → b < 6 → M1 225 b = M 20 b) ∧ (∀ b : Int, 0 ≤ b → b < 6 → M1 226 b = M 21 b) ∧ (∀ b : Int, 0 ≤ b → b < 6 → M1 227 b = M 22 b) ∧ M1 220 7 = M 15 7 ∧ M1 220 8 = M 15 8 ∧ M1 220 9 = M 15 9))) 0 0 (fun q => n0 ≤ q) := by
  refine gMetV [gA n0 220, gA n0 15] (by decide) (Nat.le_of_ble_eq_true rfl) ⟨rfl, rfl⟩ ?_
  intro p e s m args below meth cd Q X hq
  have X : gCx p s m args meth cd n0 D cA "ParishUnion$House" cX2_copyFrom 2 := X
  show G p l e R_s_X2_copyFrom_220_15 s m args below meth cd n0 D cA 2 Q 0 0 M sz 0 [(0, gA n0 220), (1, gA n0 15)] []
  refine g_aload_n (n := 1) X 1 dX2_copyFrom_0 rfl rfl rfl ?_
  refine gg_2_0 (n := 4) (z := 16) X (by decide) (gsz hsz (by decide)) lay_15 kw_1_95 dX2_copyFrom_1 rfl (rf_15_0 I (gsz hsz (by decide))) (by decide) ?_
  refine g_iconst (n := 5) X dX2_copyFrom_4 rfl ?_
  refine g_aload_n (n := 6) X 0 dX2_copyFrom_5 rfl rfl rfl ?_
  refine gg_2_0 (n := 9) (z := 221) X (by decide) (by omega) lay_220 kw_1_95 dX2_copyFrom_6 rfl (rf_220_0 I (by omega)) (by decide) ?_
  refine g_iconst (n := 10) X dX2_copyFrom_9 rfl ?_
  refine g_iconst (n := 11) X dX2_copyFrom_10 rfl ?_
  refine g_acopyI (n := 14) X kw_5_169 kw_3_209 kw_3_208 kw_1_16 (by decide) (gsz hsz (by decide)) lay_16 (by decide) (by omega) lay_221 (by omega) (by omega) (by omega) (by omega) (Nat.le_of_ble_eq_true rfl) (Nat.le_of_ble_eq_true rfl) dX2_copyFrom_11 rfl ?_
  refine G.nm (fun M1 e2 => ?_)
  have IM1 : gI sz M1 := gI.cpy I (by decide) (gsz hsz (by decide)) (fun k => ((ra_221 k).1.trans (ra_16 k).1.symm)) e2
  have CM1 : gC sz M1 := gC.cpy C (fun k => (ra_221 k).2.1) e2
  refine g_aload_n (n := 15) X 1 dX2_copyFrom_14 rfl rfl rfl ?_
  refine gg_2_1 (n := 18) (z := 17) X (by decide) (gsz hsz (by decide)) lay_15 kw_1_98 dX2_copyFrom_15 rfl (rf_15_1 IM1 (gsz hsz (by decide))) (by decide) ?_
  refine g_iconst (n := 19) X dX2_copyFrom_18 rfl ?_
  refine g_aload_n (n := 20) X 0 dX2_copyFrom_19 rfl rfl rfl ?_
  refine gg_2_1 (n := 23) (z := 222) X (by decide) (by omega) lay_220 kw_1_98 dX2_copyFrom_20 rfl (rf_220_1 IM1 (by omega)) (by decide) ?_
  refine g_iconst (n := 24) X dX2_copyFrom_23 rfl ?_
  refine g_aload_n (n := 25) X 0 dX2_copyFrom_24 rfl rfl rfl ?_
  refine gg_2_1 (n := 28) (z := 222) X (by decide) (by omega) lay_220 kw_1_98 dX2_copyFrom_25 rfl (rf_220_1 IM1 (by omega)) (by decide) ?_
  refine g_aleni (n := 29) (z := 301) X (by decide) (by omega) lay_222 (by decide +kernel) dX2_copyFrom_28 rfl ?_
  refine g_acopyI (n := 32) X kw_5_169 kw_3_209 kw_3_208 kw_1_16 (by decide) (gsz hsz (by decide)) lay_17 (by decide) (by omega) lay_222 (by omega) (by omega) (by omega) (by omega) (Nat.le_of_ble_eq_true rfl) (Nat.le_of_ble_eq_true rfl) dX2_copyFrom_29 rfl ?_
  refine G.nm (fun M3 e4 => ?_)
  have IM3 : gI sz M3 := gI.cpy IM1 (by decide) (gsz hsz (by decide)) (fun k => ((ra_222 k).1.trans (ra_17 k).1.symm)) e4
  have CM3 : gC sz M3 := gC.cpy CM1 (fun k => (ra_222 k).2.1) e4
  refine g_aload_n (n := 33) X 1 dX2_copyFrom_32 rfl rfl rfl ?_
  refine gg_2_2 (n := 36) (z := 18) X (by decide) (gsz hsz (by decide)) lay_15 kw_1_101 dX2_copyFrom_33 rfl (rf_15_2 IM3 (gsz hsz (by decide))) (by decide) ?_
  refine g_iconst (n := 37) X dX2_copyFrom_36 rfl ?_
  refine g_aload_n (n := 38) X 0 dX2_copyFrom_37 rfl rfl rfl ?_
  refine gg_2_2 (n := 41) (z := 223) X (by decide) (by omega) lay_220 kw_1_101 dX2_copyFrom_38 rfl (rf_220_2 IM3 (by omega)) (by decide) ?_
  refine g_iconst (n := 42) X dX2_copyFrom_41 rfl ?_
  refine g_iconst (n := 43) X dX2_copyFrom_42 rfl ?_
  refine g_acopyI (n := 46) X kw_5_169 kw_3_209 kw_3_208 kw_1_16 (by decide) (gsz hsz (by decide)) lay_18 (by decide) (by omega) lay_223 (by omega) (by omega) (by omega) (by omega) (Nat.le_of_ble_eq_true rfl) (Nat.le_of_ble_eq_true rfl) dX2_copyFrom_43 rfl ?_
  refine G.nm (fun M5 e6 => ?_)
  have IM5 : gI sz M5 := gI.cpy IM3 (by decide) (gsz hsz (by decide)) (fun k => ((ra_223 k).1.trans (ra_18 k).1.symm)) e6
  have CM5 : gC sz M5 := gC.cpy CM3 (fun k => (ra_223 k).2.1) e6
  refine g_aload_n (n := 47) X 1 dX2_copyFrom_46 rfl rfl rfl ?_
  refine gg_2_3 (n := 50) (z := 19) X (by decide) (gsz hsz (by decide)) lay_15 kw_1_103 dX2_copyFrom_47 rfl (rf_15_3 IM5 (gsz hsz (by decide))) (by decide) ?_
  refine g_iconst (n := 51) X dX2_copyFrom_50 rfl ?_
  refine g_aload_n (n := 52) X 0 dX2_copyFrom_51 rfl rfl rfl ?_
  refine gg_2_3 (n := 55) (z := 224) X (by decide) (by omega) lay_220 kw_1_103 dX2_copyFrom_52 rfl (rf_220_3 IM5 (by omega)) (by decide) ?_
  refine g_iconst (n := 56) X dX2_copyFrom_55 rfl ?_
  refine g_aload_n (n := 57) X 0 dX2_copyFrom_56 rfl rfl rfl ?_
  refine gg_2_3 (n := 60) (z := 224) X (by decide) (by omega) lay_220 kw_1_103 dX2_copyFrom_57 rfl (rf_220_3 IM5 (by omega)) (by decide) ?_
  refine g_aleni (n := 61) (z := 30) X (by decide) (by omega) lay_224 (by decide +kernel) dX2_copyFrom_60 rfl ?_
  refine g_acopyI (n := 64) X kw_5_169 kw_3_209 kw_3_208 kw_1_16 (by decide) (gsz hsz (by decide)) lay_19 (by decide) (by omega) lay_224 (by omega) (by omega) (by omega) (by omega) (Nat.le_of_ble_eq_true rfl) (Nat.le_of_ble_eq_true rfl) dX2_copyFrom_61 rfl ?_
  refine G.nm (fun M7 e8 => ?_)
  have IM7 : gI sz M7 := gI.cpy IM5 (by decide) (gsz hsz (by decide)) (fun k => ((ra_224 k).1.trans (ra_19 k).1.symm)) e8
  have CM7 : gC sz M7 := gC.cpy CM5 (fun k => (ra_224 k).2.1) e8
  refine g_aload_n (n := 65) X 1 dX2_copyFrom_64 rfl rfl rfl ?_
  refine gg_2_4 (n := 68) (z := 20) X (by decide) (gsz hsz (by decide)) lay_15 kw_1_104 dX2_copyFrom_65 rfl (rf_15_4 IM7 (gsz hsz (by decide))) (by decide) ?_
  refine g_iconst (n := 69) X dX2_copyFrom_68 rfl ?_
  refine g_aload_n (n := 70) X 0 dX2_copyFrom_69 rfl rfl rfl ?_
  refine gg_2_4 (n := 73) (z := 225) X (by decide) (by omega) lay_220 kw_1_104 dX2_copyFrom_70 rfl (rf_220_4 IM7 (by omega)) (by decide) ?_
  refine g_iconst (n := 74) X dX2_copyFrom_73 rfl ?_
  refine g_bipush (n := 76) X dX2_copyFrom_74 (by decide +kernel) rfl ?_
  refine g_acopyI (n := 79) X kw_5_169 kw_3_209 kw_3_208 kw_1_16 (by decide) (gsz hsz (by decide)) lay_20 (by decide) (by omega) lay_225 (by omega) (by omega) (by omega) (by omega) (Nat.le_of_ble_eq_true rfl) (Nat.le_of_ble_eq_true rfl) dX2_copyFrom_76 rfl ?_
  refine G.nm (fun M9 e10 => ?_)
  have IM9 : gI sz M9 := gI.cpy IM7 (by decide) (gsz hsz (by decide)) (fun k => ((ra_225 k).1.trans (ra_20 k).1.symm)) e10
  have CM9 : gC sz M9 := gC.cpy CM7 (fun k => (ra_225 k).2.1) e10
  refine g_aload_n (n := 80) X 1 dX2_copyFrom_79 rfl rfl rfl ?_
  refine gg_2_5 (n := 83) (z := 21) X (by decide) (gsz hsz (by decide)) lay_15 kw_1_105 dX2_copyFrom_80 rfl (rf_15_5 IM9 (gsz hsz (by decide))) (by decide) ?_
  refine g_iconst (n := 84) X dX2_copyFrom_83 rfl ?_
  refine g_aload_n (n := 85) X 0 dX2_copyFrom_84 rfl rfl rfl ?_
  refine gg_2_5 (n := 88) (z := 226) X (by decide) (by omega) lay_220 kw_1_105 dX2_copyFrom_85 rfl (rf_220_5 IM9 (by omega)) (by decide) ?_
  refine g_iconst (n := 89) X dX2_copyFrom_88 rfl ?_
  refine g_bipush (n := 91) X dX2_copyFrom_89 (by decide +kernel) rfl ?_
  refine g_acopyI (n := 94) X kw_5_169 kw_3_209 kw_3_208 kw_1_16 (by decide) (gsz hsz (by decide)) lay_21 (by decide) (by omega) lay_226 (by omega) (by omega) (by omega) (by omega) (Nat.le_of_ble_eq_true rfl) (Nat.le_of_ble_eq_true rfl) dX2_copyFrom_91 rfl ?_
  refine G.nm (fun M11 e12 => ?_)
  have IM11 : gI sz M11 := gI.cpy IM9 (by decide) (gsz hsz (by decide)) (fun k => ((ra_226 k).1.trans (ra_21 k).1.symm)) e12
  have CM11 : gC sz M11 := gC.cpy CM9 (fun k => (ra_226 k).2.1) e12
  refine g_aload_n (n := 95) X 1 dX2_copyFrom_94 rfl rfl rfl ?_
  refine gg_2_6 (n := 98) (z := 22) X (by decide) (gsz hsz (by decide)) lay_15 kw_1_106 dX2_copyFrom_95 rfl (rf_15_6 IM11 (gsz hsz (by decide))) (by decide) ?_
  refine g_iconst (n := 99) X dX2_copyFrom_98 rfl ?_
  refine g_aload_n (n := 100) X 0 dX2_copyFrom_99 rfl rfl rfl ?_
  refine gg_2_6 (n := 103) (z := 227) X (by decide) (by omega) lay_220 kw_1_106 dX2_copyFrom_100 rfl (rf_220_6 IM11 (by omega)) (by decide) ?_
  refine g_iconst (n := 104) X dX2_copyFrom_103 rfl ?_
  refine g_bipush (n := 106) X dX2_copyFrom_104 (by decide +kernel) rfl ?_
  refine g_acopyI (n := 109) X kw_5_169 kw_3_209 kw_3_208 kw_1_16 (by decide) (gsz hsz (by decide)) lay_22 (by decide) (by omega) lay_227 (by omega) (by omega) (by omega) (by omega) (Nat.le_of_ble_eq_true rfl) (Nat.le_of_ble_eq_true rfl) dX2_copyFrom_106 rfl ?_
  refine G.nm (fun M13 e14 => ?_)
  have IM13 : gI sz M13 := gI.cpy IM11 (by decide) (gsz hsz (by decide)) (fun k => ((ra_227 k).1.trans (ra_22 k).1.symm)) e14
  have CM13 : gC sz M13 := gC.cpy CM11 (fun k => (ra_227 k).2.1) e14
  refine g_aload_n (n := 110) X 0 dX2_copyFrom_109 rfl rfl rfl ?_
  refine g_aload_n (n := 111) X 1 dX2_copyFrom_110 rfl rfl rfl ?_
  obtain ⟨v15, hv15, rv15⟩ := gRd IM13 (by decide) (gsz hsz (by decide)) rc_15_7.1
  refine gg_2_7 (n := 114) (z := v15) X (by decide) (gsz hsz (by decide)) lay_15 kw_1_107 dX2_copyFrom_111 rfl hv15 ?_
  refine gp_2_7 (n := 117) X (by decide) (by omega) lay_220 kw_1_107 dX2_copyFrom_114 rfl ?_
  refine G.nm (fun M16 e17 => ?_)
  have IM16 : gI sz M16 := gI.set IM13 rc_220_7.1 (by omega) e17
  have CM16 : gC sz M16 := gC.set CM13 rc_220_7.2.1 e17
  refine g_aload_n (n := 118) X 0 dX2_copyFrom_117 rfl rfl rfl ?_
  refine g_aload_n (n := 119) X 1 dX2_copyFrom_118 rfl rfl rfl ?_
  obtain ⟨v18, hv18, rv18⟩ := gRd IM16 (by decide) (gsz hsz (by decide)) rc_15_8.1
  refine gg_2_8 (n := 122) (z := v18) X (by decide) (gsz hsz (by decide)) lay_15 kw_1_109 dX2_copyFrom_119 rfl hv18 ?_
  refine gp_2_8 (n := 125) X (by decide) (by omega) lay_220 kw_1_109 dX2_copyFrom_122 rfl ?_
  refine G.nm (fun M19 e20 => ?_)
  have IM19 : gI sz M19 := gI.set IM16 rc_220_8.1 (by omega) e20
  have CM19 : gC sz M19 := gC.set CM16 rc_220_8.2.1 e20
  refine g_aload_n (n := 126) X 0 dX2_copyFrom_125 rfl rfl rfl ?_
  refine g_aload_n (n := 127) X 1 dX2_copyFrom_126 rfl rfl rfl ?_
  obtain ⟨v21, hv21, rv21⟩ := gRd IM19 (by decide) (gsz hsz (by decide)) rc_15_9.1
  refine gg_2_9 (n := 130) (z := v21) X (by decide) (gsz hsz (by decide)) lay_15 kw_1_112 dX2_copyFrom_127 rfl hv21 ?_
  refine gp_2_9 (n := 133) X (by decide) (by omega) lay_220 kw_1_112 dX2_copyFrom_130 rfl ?_
  refine G.nm (fun M22 e23 => ?_)
  have IM22 : gI sz M22 := gI.set IM19 rc_220_9.1 (by omega) e23
  have CM22 : gC sz M22 := gC.set CM19 rc_220_9.2.1 e23
  exact hq _ _ _ dX2_copyFrom_133 ⟨IM22, CM22, (gFr.s (gFr.s (gFr.s (gFr.y (gFr.y (gFr.y (gFr.y (gFr.y (gFr.y (gFr.y gFr.rf e2 (fun k => (ra_221 k).2.2) rfl) e4 (fun k => (ra_222 k).2.2) rfl) e6 (fun k => (ra_223 k).2.2) rfl) e8 (fun k => (ra_224 k).2.2) rfl) e10 (fun k => (ra_225 k).2.2) rfl) e12 (fun k => (ra_226 k).2.2) rfl) e14 (fun k => (ra_227 k).2.2) rfl) e17 rc_220_7.2.2 rfl) e20 rc_220_8.2.2 rfl) e23 rc_220_9.2.2 rfl), ⟨(fun b h0 h1 => ((congrFun (congrFun e23 _) _).trans ((gset_ne (by omega)).trans ((congrFun (congrFun e20 _) _).trans ((gset_ne (by omega)).trans ((congrFun (congrFun e17 _) _).trans ((gset_ne (by omega)).trans ((congrFun (congrFun e14 _) _).trans ((gcpy_ne (by omega)).trans ((congrFun (congrFun e12 _) _).trans ((gcpy_ne (by omega)).trans ((congrFun (congrFun e10 _) _).trans ((gcpy_ne (by omega)).trans ((congrFun (congrFun e8 _) _).trans ((gcpy_ne (by omega)).trans ((congrFun (congrFun e6 _) _).trans ((gcpy_ne (by omega)).trans ((congrFun (congrFun e4 _) _).trans ((gcpy_ne (by omega)).trans ((congrFun (congrFun e2 _) _).trans ((gcpy_in (by omega)).trans rfl))))))))))))))))))))), (fun b h0 h1 => ((congrFun (congrFun e23 _) _).trans ((gset_ne (by omega)).trans ((congrFun (congrFun e20 _) _).trans ((gset_ne (by omega)).trans ((congrFun (congrFun e17 _) _).trans ((gset_ne (by omega)).trans ((congrFun (congrFun e14 _) _).trans ((gcpy_ne (by omega)).trans ((congrFun (congrFun e12 _) _).trans ((gcpy_ne (by omega)).trans ((congrFun (congrFun e10 _) _).trans ((gcpy_ne (by omega)).trans ((congrFun (congrFun e8 _) _).trans ((gcpy_ne (by omega)).trans ((congrFun (congrFun e6 _) _).trans ((gcpy_ne (by omega)).trans ((congrFun (congrFun e4 _) _).trans ((gcpy_in (by omega)).trans ((congrFun (congrFun e2 _) _).trans ((gcpy_ne (by omega)).trans rfl))))))))))))))))))))), (fun b h0 h1 => ((congrFun (congrFun e23 _) _).trans ((gset_ne (by omega)).trans ((congrFun (congrFun e20 _) _).trans ((gset_ne (by omega)).trans ((congrFun (congrFun e17 _) _).trans ((gset_ne (by omega)).trans ((congrFun (congrFun e14 _) _).trans ((gcpy_ne (by omega)).trans ((congrFun (congrFun e12 _) _).trans ((gcpy_ne (by omega)).trans ((congrFun (congrFun e10 _) _).trans ((gcpy_ne (by omega)).trans ((congrFun (congrFun e8 _) _).trans ((gcpy_ne (by omega)).trans ((congrFun (congrFun e6 _) _).trans ((gcpy_in (by omega)).trans ((congrFun (congrFun e4 _) _).trans ((gcpy_ne (by omega)).trans ((congrFun (congrFun e2 _) _).trans ((gcpy_ne (by omega)).trans rfl))))))))))))))))))))), (fun b h0 h1 => ((congrFun (congrFun e23 _) _).trans ((gset_ne (by omega)).trans ((congrFun (congrFun e20 _) _).trans ((gset_ne (by omega)).trans ((congrFun (congrFun e17 _) _).trans ((gset_ne (by omega)).trans ((congrFun (congrFun e14 _) _).trans ((gcpy_ne (by omega)).trans ((congrFun (congrFun e12 _) _).trans ((gcpy_ne (by omega)).trans ((congrFun (congrFun e10 _) _).trans ((gcpy_ne (by omega)).trans ((congrFun (congrFun e8 _) _).trans ((gcpy_in (by omega)).trans ((congrFun (congrFun e6 _) _).trans ((gcpy_ne (by omega)).trans ((congrFun (congrFun e4 _) _).trans ((gcpy_ne (by omega)).trans ((congrFun (congrFun e2 _) _).trans ((gcpy_ne (by omega)).trans rfl))))))))))))))))))))), (fun b h0 h1 => ((congrFun (congrFun e23 _) _).trans ((gset_ne (by omega)).trans ((congrFun (congrFun e20 _) _).trans ((gset_ne (by omega)).trans ((congrFun (congrFun e17 _) _).trans ((gset_ne (by omega)).trans ((congrFun (congrFun e14 _) _).trans ((gcpy_ne (by omega)).trans ((congrFun (congrFun e12 _) _).trans ((gcpy_ne (by omega)).trans ((congrFun (congrFun e10 _) _).trans ((gcpy_in (by omega)).trans ((congrFun (congrFun e8 _) _).trans ((gcpy_ne (by omega)).trans ((congrFun (congrFun e6 _) _).trans ((gcpy_ne (by omega)).trans ((congrFun (congrFun e4 _) _).trans ((gcpy_ne (by omega)).trans ((congrFun (congrFun e2 _) _).trans ((gcpy_ne (by omega)).trans rfl))))))))))))))))))))), (fun b h0 h1 => ((congrFun (congrFun e23 _) _).trans ((gset_ne (by omega)).trans ((congrFun (congrFun e20 _) _).trans ((gset_ne (by omega)).trans ((congrFun (congrFun e17 _) _).trans ((gset_ne (by omega)).trans ((congrFun (congrFun e14 _) _).trans ((gcpy_ne (by omega)).trans ((congrFun (congrFun e12 _) _).trans ((gcpy_in (by omega)).trans ((congrFun (congrFun e10 _) _).trans ((gcpy_ne (by omega)).trans ((congrFun (congrFun e8 _) _).trans ((gcpy_ne (by omega)).trans ((congrFun (congrFun e6 _) _).trans ((gcpy_ne (by omega)).trans ((congrFun (congrFun e4 _) _).trans ((gcpy_ne (by omega)).trans ((congrFun (congrFun e2 _) _).trans ((gcpy_ne (by omega)).trans rfl))))))))))))))))))))), (fun b h0 h1 => ((congrFun (congrFun e23 _) _).trans ((gset_ne (by omega)).trans ((congrFun (congrFun e20 _) _).trans ((gset_ne (by omega)).trans ((congrFun (congrFun e17 _) _).trans ((gset_ne (by omega)).trans ((congrFun (congrFun e14 _) _).trans ((gcpy_in (by omega)).trans ((congrFun (congrFun e12 _) _).trans ((gcpy_ne (by omega)).trans ((congrFun (congrFun e10 _) _).trans ((gcpy_ne (by omega)).trans ((congrFun (congrFun e8 _) _).trans ((gcpy_ne (by omega)).trans ((congrFun (congrFun e6 _) _).trans ((gcpy_ne (by omega)).trans ((congrFun (congrFun e4 _) _).trans ((gcpy_ne (by omega)).trans ((congrFun (congrFun e2 _) _).trans ((gcpy_ne (by omega)).trans rfl))))))))))))))))))))), (((congrFun (congrFun e23 _) _).trans ((gset_ne (by omega)).trans ((congrFun (congrFun e20 _) _).trans ((gset_ne (by omega)).trans ((congrFun (congrFun e17 _) _).trans (gset_eq _ _ _ _)))))).trans ((hv15 : M13 15 7 = v15).symm.trans ((congrFun (congrFun e14 _) _).trans ((gcpy_ne (by omega)).trans ((congrFun (congrFun e12 _) _).trans ((gcpy_ne (by omega)).trans ((congrFun (congrFun e10 _) _).trans ((gcpy_ne (by omega)).trans ((congrFun (congrFun e8 _) _).trans ((gcpy_ne (by omega)).trans ((congrFun (congrFun e6 _) _).trans ((gcpy_ne (by omega)).trans ((congrFun (congrFun e4 _) _).trans ((gcpy_ne (by omega)).trans ((congrFun (congrFun e2 _) _).trans ((gcpy_ne (by omega)).trans rfl)))))))))))))))), (((congrFun (congrFun e23 _) _).trans ((gset_ne (by omega)).trans ((congrFun (congrFun e20 _) _).trans (gset_eq _ _ _ _)))).trans ((hv18 : M16 15 8 = v18).symm.trans ((congrFun (congrFun e17 _) _).trans ((gset_ne (by omega)).trans ((congrFun (congrFun e14 _) _).trans ((gcpy_ne (by omega)).trans ((congrFun (congrFun e12 _) _).trans ((gcpy_ne (by omega)).trans ((congrFun (congrFun e10 _) _).trans ((gcpy_ne (by omega)).trans ((congrFun (congrFun e8 _) _).trans ((gcpy_ne (by omega)).trans ((congrFun (congrFun e6 _) _).trans ((gcpy_ne (by omega)).trans ((congrFun (congrFun e4 _) _).trans ((gcpy_ne (by omega)).trans ((congrFun (congrFun e2 _) _).trans ((gcpy_ne (by omega)).trans rfl)))))))))))))))))), (((congrFun (congrFun e23 _) _).trans (gset_eq _ _ _ _)).trans ((hv21 : M19 15 9 = v21).symm.trans ((congrFun (congrFun e20 _) _).trans ((gset_ne (by omega)).trans ((congrFun (congrFun e17 _) _).trans ((gset_ne (by omega)).trans ((congrFun (congrFun e14 _) _).trans ((gcpy_ne (by omega)).trans ((congrFun (congrFun e12 _) _).trans ((gcpy_ne (by omega)).trans ((congrFun (congrFun e10 _) _).trans ((gcpy_ne (by omega)).trans ((congrFun (congrFun e8 _) _).trans ((gcpy_ne (by omega)).trans ((congrFun (congrFun e6 _) _).trans ((gcpy_ne (by omega)).trans ((congrFun (congrFun e4 _) _).trans ((gcpy_ne (by omega)).trans ((congrFun (congrFun e2 _) _).trans ((gcpy_ne (by omega)).trans rfl))))))))))))))))))))⟩⟩
abbrev R_s_X2_copyFrom_15_220 : Room := { frames := 4, cells := 0, slots := 0, locals := 120 }
set_option maxRecDepth 100000 in
set_option maxHeartbeats 4000000 in
theorem s_X2_copyFrom_15_220 {l : Launch} {n0 : Nat} {D : va_G} {cA : Nat → ClassId} {M : gM}  {sz : Nat} (hsz : 206 ≤ sz) (I : gI sz M) (C : gC sz M) (hsz8 : sz = 358)  : Met l yX2_copyFrom (gWsOf yX2_copyFrom cX2_copyFrom 2 (Option.none : Option Jvm.ClassFile.FieldType)) R_s_X2_copyFrom_15_220 (gPc n0 D cA [gA n0 15, gA n0 220] M sz) (gQv n0 D cA sz (fun M1 => gI sz M1 ∧ gC sz M1 ∧ gFr 63488 M M1 ∧ ((∀ b : Int, 0 ≤ b → b < 4 → M1 16 b = M 221 b) ∧ (∀ b : Int, 0 ≤ b → b < 301 → M1 17 b = M 222 b) ∧ (∀ b : Int, 0 ≤ b → b < 3 → M1 18 b = M 223 b) ∧ (∀ b : Int, 0 ≤ b → b < 30 → M1 19 b = M 224 b) ∧ (∀ b : Int, 0 ≤ b → b < 6 → M1 20 b = M 225 b) ∧ (∀ b : Int, 0 ≤ b → b < 6 → M1 21 b = M 226 b) ∧ (∀ b : Int, 0 ≤ b → b < 6 → M1 22 b = M 227 b) ∧ M1 15 7 = M 220 7 ∧ M1 15 8 = M 220 8 ∧ M1 15 9 = M 220 9))) 0 0 (fun q => n0 ≤ q) := by
  refine gMetV [gA n0 15, gA n0 220] (by decide) (Nat.le_of_ble_eq_true rfl) ⟨rfl, rfl⟩ ?_
  intro p e s m args below meth cd Q X hq
  have X : gCx p s m args meth cd n0 D cA "ParishUnion$House" cX2_copyFrom 2 := X
  show G p l e R_s_X2_copyFrom_15_220 s m args below meth cd n0 D cA 2 Q 0 0 M sz 0 [(0, gA n0 15), (1, gA n0 220)] []
  refine g_aload_n (n := 1) X 1 dX2_copyFrom_0 rfl rfl rfl ?_
  refine gg_2_0 (n := 4) (z := 221) X (by decide) (by omega) lay_220 kw_1_95 dX2_copyFrom_1 rfl (rf_220_0 I (by omega)) (by decide) ?_
  refine g_iconst (n := 5) X dX2_copyFrom_4 rfl ?_
  refine g_aload_n (n := 6) X 0 dX2_copyFrom_5 rfl rfl rfl ?_
  refine gg_2_0 (n := 9) (z := 16) X (by decide) (gsz hsz (by decide)) lay_15 kw_1_95 dX2_copyFrom_6 rfl (rf_15_0 I (gsz hsz (by decide))) (by decide) ?_
  refine g_iconst (n := 10) X dX2_copyFrom_9 rfl ?_
  refine g_iconst (n := 11) X dX2_copyFrom_10 rfl ?_
  refine g_acopyI (n := 14) X kw_5_169 kw_3_209 kw_3_208 kw_1_16 (by decide) (by omega) lay_221 (by decide) (gsz hsz (by decide)) lay_16 (by omega) (by omega) (by omega) (by omega) (Nat.le_of_ble_eq_true rfl) (Nat.le_of_ble_eq_true rfl) dX2_copyFrom_11 rfl ?_
  refine G.nm (fun M1 e2 => ?_)
  have IM1 : gI sz M1 := gI.cpy I (by decide) (by omega) (fun k => ((ra_16 k).1.trans (ra_221 k).1.symm)) e2
  have CM1 : gC sz M1 := gC.cpy C (fun k => (ra_16 k).2.1) e2
  refine g_aload_n (n := 15) X 1 dX2_copyFrom_14 rfl rfl rfl ?_
  refine gg_2_1 (n := 18) (z := 222) X (by decide) (by omega) lay_220 kw_1_98 dX2_copyFrom_15 rfl (rf_220_1 IM1 (by omega)) (by decide) ?_
  refine g_iconst (n := 19) X dX2_copyFrom_18 rfl ?_
  refine g_aload_n (n := 20) X 0 dX2_copyFrom_19 rfl rfl rfl ?_
  refine gg_2_1 (n := 23) (z := 17) X (by decide) (gsz hsz (by decide)) lay_15 kw_1_98 dX2_copyFrom_20 rfl (rf_15_1 IM1 (gsz hsz (by decide))) (by decide) ?_
  refine g_iconst (n := 24) X dX2_copyFrom_23 rfl ?_
  refine g_aload_n (n := 25) X 0 dX2_copyFrom_24 rfl rfl rfl ?_
  refine gg_2_1 (n := 28) (z := 17) X (by decide) (gsz hsz (by decide)) lay_15 kw_1_98 dX2_copyFrom_25 rfl (rf_15_1 IM1 (gsz hsz (by decide))) (by decide) ?_
  refine g_aleni (n := 29) (z := 301) X (by decide) (gsz hsz (by decide)) lay_17 (by decide +kernel) dX2_copyFrom_28 rfl ?_
  refine g_acopyI (n := 32) X kw_5_169 kw_3_209 kw_3_208 kw_1_16 (by decide) (by omega) lay_222 (by decide) (gsz hsz (by decide)) lay_17 (by omega) (by omega) (by omega) (by omega) (Nat.le_of_ble_eq_true rfl) (Nat.le_of_ble_eq_true rfl) dX2_copyFrom_29 rfl ?_
  refine G.nm (fun M3 e4 => ?_)
  have IM3 : gI sz M3 := gI.cpy IM1 (by decide) (by omega) (fun k => ((ra_17 k).1.trans (ra_222 k).1.symm)) e4
  have CM3 : gC sz M3 := gC.cpy CM1 (fun k => (ra_17 k).2.1) e4
  refine g_aload_n (n := 33) X 1 dX2_copyFrom_32 rfl rfl rfl ?_
  refine gg_2_2 (n := 36) (z := 223) X (by decide) (by omega) lay_220 kw_1_101 dX2_copyFrom_33 rfl (rf_220_2 IM3 (by omega)) (by decide) ?_
  refine g_iconst (n := 37) X dX2_copyFrom_36 rfl ?_
  refine g_aload_n (n := 38) X 0 dX2_copyFrom_37 rfl rfl rfl ?_
  refine gg_2_2 (n := 41) (z := 18) X (by decide) (gsz hsz (by decide)) lay_15 kw_1_101 dX2_copyFrom_38 rfl (rf_15_2 IM3 (gsz hsz (by decide))) (by decide) ?_
  refine g_iconst (n := 42) X dX2_copyFrom_41 rfl ?_
  refine g_iconst (n := 43) X dX2_copyFrom_42 rfl ?_
  refine g_acopyI (n := 46) X kw_5_169 kw_3_209 kw_3_208 kw_1_16 (by decide) (by omega) lay_223 (by decide) (gsz hsz (by decide)) lay_18 (by omega) (by omega) (by omega) (by omega) (Nat.le_of_ble_eq_true rfl) (Nat.le_of_ble_eq_true rfl) dX2_copyFrom_43 rfl ?_
  refine G.nm (fun M5 e6 => ?_)
  have IM5 : gI sz M5 := gI.cpy IM3 (by decide) (by omega) (fun k => ((ra_18 k).1.trans (ra_223 k).1.symm)) e6
  have CM5 : gC sz M5 := gC.cpy CM3 (fun k => (ra_18 k).2.1) e6
  refine g_aload_n (n := 47) X 1 dX2_copyFrom_46 rfl rfl rfl ?_
  refine gg_2_3 (n := 50) (z := 224) X (by decide) (by omega) lay_220 kw_1_103 dX2_copyFrom_47 rfl (rf_220_3 IM5 (by omega)) (by decide) ?_
  refine g_iconst (n := 51) X dX2_copyFrom_50 rfl ?_
  refine g_aload_n (n := 52) X 0 dX2_copyFrom_51 rfl rfl rfl ?_
  refine gg_2_3 (n := 55) (z := 19) X (by decide) (gsz hsz (by decide)) lay_15 kw_1_103 dX2_copyFrom_52 rfl (rf_15_3 IM5 (gsz hsz (by decide))) (by decide) ?_
  refine g_iconst (n := 56) X dX2_copyFrom_55 rfl ?_
  refine g_aload_n (n := 57) X 0 dX2_copyFrom_56 rfl rfl rfl ?_
  refine gg_2_3 (n := 60) (z := 19) X (by decide) (gsz hsz (by decide)) lay_15 kw_1_103 dX2_copyFrom_57 rfl (rf_15_3 IM5 (gsz hsz (by decide))) (by decide) ?_
  refine g_aleni (n := 61) (z := 30) X (by decide) (gsz hsz (by decide)) lay_19 (by decide +kernel) dX2_copyFrom_60 rfl ?_
  refine g_acopyI (n := 64) X kw_5_169 kw_3_209 kw_3_208 kw_1_16 (by decide) (by omega) lay_224 (by decide) (gsz hsz (by decide)) lay_19 (by omega) (by omega) (by omega) (by omega) (Nat.le_of_ble_eq_true rfl) (Nat.le_of_ble_eq_true rfl) dX2_copyFrom_61 rfl ?_
  refine G.nm (fun M7 e8 => ?_)
  have IM7 : gI sz M7 := gI.cpy IM5 (by decide) (by omega) (fun k => ((ra_19 k).1.trans (ra_224 k).1.symm)) e8
  have CM7 : gC sz M7 := gC.cpy CM5 (fun k => (ra_19 k).2.1) e8
  refine g_aload_n (n := 65) X 1 dX2_copyFrom_64 rfl rfl rfl ?_
  refine gg_2_4 (n := 68) (z := 225) X (by decide) (by omega) lay_220 kw_1_104 dX2_copyFrom_65 rfl (rf_220_4 IM7 (by omega)) (by decide) ?_
  refine g_iconst (n := 69) X dX2_copyFrom_68 rfl ?_
  refine g_aload_n (n := 70) X 0 dX2_copyFrom_69 rfl rfl rfl ?_
  refine gg_2_4 (n := 73) (z := 20) X (by decide) (gsz hsz (by decide)) lay_15 kw_1_104 dX2_copyFrom_70 rfl (rf_15_4 IM7 (gsz hsz (by decide))) (by decide) ?_
  refine g_iconst (n := 74) X dX2_copyFrom_73 rfl ?_
  refine g_bipush (n := 76) X dX2_copyFrom_74 (by decide +kernel) rfl ?_
  refine g_acopyI (n := 79) X kw_5_169 kw_3_209 kw_3_208 kw_1_16 (by decide) (by omega) lay_225 (by decide) (gsz hsz (by decide)) lay_20 (by omega) (by omega) (by omega) (by omega) (Nat.le_of_ble_eq_true rfl) (Nat.le_of_ble_eq_true rfl) dX2_copyFrom_76 rfl ?_
  refine G.nm (fun M9 e10 => ?_)
  have IM9 : gI sz M9 := gI.cpy IM7 (by decide) (by omega) (fun k => ((ra_20 k).1.trans (ra_225 k).1.symm)) e10
  have CM9 : gC sz M9 := gC.cpy CM7 (fun k => (ra_20 k).2.1) e10
  refine g_aload_n (n := 80) X 1 dX2_copyFrom_79 rfl rfl rfl ?_
  refine gg_2_5 (n := 83) (z := 226) X (by decide) (by omega) lay_220 kw_1_105 dX2_copyFrom_80 rfl (rf_220_5 IM9 (by omega)) (by decide) ?_
  refine g_iconst (n := 84) X dX2_copyFrom_83 rfl ?_
  refine g_aload_n (n := 85) X 0 dX2_copyFrom_84 rfl rfl rfl ?_
  refine gg_2_5 (n := 88) (z := 21) X (by decide) (gsz hsz (by decide)) lay_15 kw_1_105 dX2_copyFrom_85 rfl (rf_15_5 IM9 (gsz hsz (by decide))) (by decide) ?_
  refine g_iconst (n := 89) X dX2_copyFrom_88 rfl ?_
  refine g_bipush (n := 91) X dX2_copyFrom_89 (by decide +kernel) rfl ?_
  refine g_acopyI (n := 94) X kw_5_169 kw_3_209 kw_3_208 kw_1_16 (by decide) (by omega) lay_226 (by decide) (gsz hsz (by decide)) lay_21 (by omega) (by omega) (by omega) (by omega) (Nat.le_of_ble_eq_true rfl) (Nat.le_of_ble_eq_true rfl) dX2_copyFrom_91 rfl ?_
  refine G.nm (fun M11 e12 => ?_)
  have IM11 : gI sz M11 := gI.cpy IM9 (by decide) (by omega) (fun k => ((ra_21 k).1.trans (ra_226 k).1.symm)) e12
  have CM11 : gC sz M11 := gC.cpy CM9 (fun k => (ra_21 k).2.1) e12
  refine g_aload_n (n := 95) X 1 dX2_copyFrom_94 rfl rfl rfl ?_
  refine gg_2_6 (n := 98) (z := 227) X (by decide) (by omega) lay_220 kw_1_106 dX2_copyFrom_95 rfl (rf_220_6 IM11 (by omega)) (by decide) ?_
  refine g_iconst (n := 99) X dX2_copyFrom_98 rfl ?_
  refine g_aload_n (n := 100) X 0 dX2_copyFrom_99 rfl rfl rfl ?_
  refine gg_2_6 (n := 103) (z := 22) X (by decide) (gsz hsz (by decide)) lay_15 kw_1_106 dX2_copyFrom_100 rfl (rf_15_6 IM11 (gsz hsz (by decide))) (by decide) ?_
  refine g_iconst (n := 104) X dX2_copyFrom_103 rfl ?_
  refine g_bipush (n := 106) X dX2_copyFrom_104 (by decide +kernel) rfl ?_
  refine g_acopyI (n := 109) X kw_5_169 kw_3_209 kw_3_208 kw_1_16 (by decide) (by omega) lay_227 (by decide) (gsz hsz (by decide)) lay_22 (by omega) (by omega) (by omega) (by omega) (Nat.le_of_ble_eq_true rfl) (Nat.le_of_ble_eq_true rfl) dX2_copyFrom_106 rfl ?_
  refine G.nm (fun M13 e14 => ?_)
  have IM13 : gI sz M13 := gI.cpy IM11 (by decide) (by omega) (fun k => ((ra_22 k).1.trans (ra_227 k).1.symm)) e14
  have CM13 : gC sz M13 := gC.cpy CM11 (fun k => (ra_22 k).2.1) e14
  refine g_aload_n (n := 110) X 0 dX2_copyFrom_109 rfl rfl rfl ?_
  refine g_aload_n (n := 111) X 1 dX2_copyFrom_110 rfl rfl rfl ?_
  obtain ⟨v15, hv15, rv15⟩ := gRd IM13 (by decide) (by omega) rc_220_7.1
  refine gg_2_7 (n := 114) (z := v15) X (by decide) (by omega) lay_220 kw_1_107 dX2_copyFrom_111 rfl hv15 ?_
  refine gp_2_7 (n := 117) X (by decide) (gsz hsz (by decide)) lay_15 kw_1_107 dX2_copyFrom_114 rfl ?_
  refine G.nm (fun M16 e17 => ?_)
  have IM16 : gI sz M16 := gI.set IM13 rc_15_7.1 (by omega) e17
  have CM16 : gC sz M16 := gC.set CM13 rc_15_7.2.1 e17
  refine g_aload_n (n := 118) X 0 dX2_copyFrom_117 rfl rfl rfl ?_
  refine g_aload_n (n := 119) X 1 dX2_copyFrom_118 rfl rfl rfl ?_
  obtain ⟨v18, hv18, rv18⟩ := gRd IM16 (by decide) (by omega) rc_220_8.1
  refine gg_2_8 (n := 122) (z := v18) X (by decide) (by omega) lay_220 kw_1_109 dX2_copyFrom_119 rfl hv18 ?_
  refine gp_2_8 (n := 125) X (by decide) (gsz hsz (by decide)) lay_15 kw_1_109 dX2_copyFrom_122 rfl ?_
  refine G.nm (fun M19 e20 => ?_)
  have IM19 : gI sz M19 := gI.set IM16 rc_15_8.1 (by omega) e20
  have CM19 : gC sz M19 := gC.set CM16 rc_15_8.2.1 e20
  refine g_aload_n (n := 126) X 0 dX2_copyFrom_125 rfl rfl rfl ?_
  refine g_aload_n (n := 127) X 1 dX2_copyFrom_126 rfl rfl rfl ?_
  obtain ⟨v21, hv21, rv21⟩ := gRd IM19 (by decide) (by omega) rc_220_9.1
  refine gg_2_9 (n := 130) (z := v21) X (by decide) (by omega) lay_220 kw_1_112 dX2_copyFrom_127 rfl hv21 ?_
  refine gp_2_9 (n := 133) X (by decide) (gsz hsz (by decide)) lay_15 kw_1_112 dX2_copyFrom_130 rfl ?_
  refine G.nm (fun M22 e23 => ?_)
  have IM22 : gI sz M22 := gI.set IM19 rc_15_9.1 (by omega) e23
  have CM22 : gC sz M22 := gC.set CM19 rc_15_9.2.1 e23
  exact hq _ _ _ dX2_copyFrom_133 ⟨IM22, CM22, (gFr.s (gFr.s (gFr.s (gFr.y (gFr.y (gFr.y (gFr.y (gFr.y (gFr.y (gFr.y gFr.rf e2 (fun k => (ra_16 k).2.2) rfl) e4 (fun k => (ra_17 k).2.2) rfl) e6 (fun k => (ra_18 k).2.2) rfl) e8 (fun k => (ra_19 k).2.2) rfl) e10 (fun k => (ra_20 k).2.2) rfl) e12 (fun k => (ra_21 k).2.2) rfl) e14 (fun k => (ra_22 k).2.2) rfl) e17 rc_15_7.2.2 rfl) e20 rc_15_8.2.2 rfl) e23 rc_15_9.2.2 rfl), ⟨(fun b h0 h1 => ((congrFun (congrFun e23 _) _).trans ((gset_ne (by omega)).trans ((congrFun (congrFun e20 _) _).trans ((gset_ne (by omega)).trans ((congrFun (congrFun e17 _) _).trans ((gset_ne (by omega)).trans ((congrFun (congrFun e14 _) _).trans ((gcpy_ne (by omega)).trans ((congrFun (congrFun e12 _) _).trans ((gcpy_ne (by omega)).trans ((congrFun (congrFun e10 _) _).trans ((gcpy_ne (by omega)).trans ((congrFun (congrFun e8 _) _).trans ((gcpy_ne (by omega)).trans ((congrFun (congrFun e6 _) _).trans ((gcpy_ne (by omega)).trans ((congrFun (congrFun e4 _) _).trans ((gcpy_ne (by omega)).trans ((congrFun (congrFun e2 _) _).trans ((gcpy_in (by omega)).trans rfl))))))))))))))))))))), (fun b h0 h1 => ((congrFun (congrFun e23 _) _).trans ((gset_ne (by omega)).trans ((congrFun (congrFun e20 _) _).trans ((gset_ne (by omega)).trans ((congrFun (congrFun e17 _) _).trans ((gset_ne (by omega)).trans ((congrFun (congrFun e14 _) _).trans ((gcpy_ne (by omega)).trans ((congrFun (congrFun e12 _) _).trans ((gcpy_ne (by omega)).trans ((congrFun (congrFun e10 _) _).trans ((gcpy_ne (by omega)).trans ((congrFun (congrFun e8 _) _).trans ((gcpy_ne (by omega)).trans ((congrFun (congrFun e6 _) _).trans ((gcpy_ne (by omega)).trans ((congrFun (congrFun e4 _) _).trans ((gcpy_in (by omega)).trans ((congrFun (congrFun e2 _) _).trans ((gcpy_ne (by omega)).trans rfl))))))))))))))))))))), (fun b h0 h1 => ((congrFun (congrFun e23 _) _).trans ((gset_ne (by omega)).trans ((congrFun (congrFun e20 _) _).trans ((gset_ne (by omega)).trans ((congrFun (congrFun e17 _) _).trans ((gset_ne (by omega)).trans ((congrFun (congrFun e14 _) _).trans ((gcpy_ne (by omega)).trans ((congrFun (congrFun e12 _) _).trans ((gcpy_ne (by omega)).trans ((congrFun (congrFun e10 _) _).trans ((gcpy_ne (by omega)).trans ((congrFun (congrFun e8 _) _).trans ((gcpy_ne (by omega)).trans ((congrFun (congrFun e6 _) _).trans ((gcpy_in (by omega)).trans ((congrFun (congrFun e4 _) _).trans ((gcpy_ne (by omega)).trans ((congrFun (congrFun e2 _) _).trans ((gcpy_ne (by omega)).trans rfl))))))))))))))))))))), (fun b h0 h1 => ((congrFun (congrFun e23 _) _).trans ((gset_ne (by omega)).trans ((congrFun (congrFun e20 _) _).trans ((gset_ne (by omega)).trans ((congrFun (congrFun e17 _) _).trans ((gset_ne (by omega)).trans ((congrFun (congrFun e14 _) _).trans ((gcpy_ne (by omega)).trans ((congrFun (congrFun e12 _) _).trans ((gcpy_ne (by omega)).trans ((congrFun (congrFun e10 _) _).trans ((gcpy_ne (by omega)).trans ((congrFun (congrFun e8 _) _).trans ((gcpy_in (by omega)).trans ((congrFun (congrFun e6 _) _).trans ((gcpy_ne (by omega)).trans ((congrFun (congrFun e4 _) _).trans ((gcpy_ne (by omega)).trans ((congrFun (congrFun e2 _) _).trans ((gcpy_ne (by omega)).trans rfl))))))))))))))))))))), (fun b h0 h1 => ((congrFun (congrFun e23 _) _).trans ((gset_ne (by omega)).trans ((congrFun (congrFun e20 _) _).trans ((gset_ne (by omega)).trans ((congrFun (congrFun e17 _) _).trans ((gset_ne (by omega)).trans ((congrFun (congrFun e14 _) _).trans ((gcpy_ne (by omega)).trans ((congrFun (congrFun e12 _) _).trans ((gcpy_ne (by omega)).trans ((congrFun (congrFun e10 _) _).trans ((gcpy_in (by omega)).trans ((congrFun (congrFun e8 _) _).trans ((gcpy_ne (by omega)).trans ((congrFun (congrFun e6 _) _).trans ((gcpy_ne (by omega)).trans ((congrFun (congrFun e4 _) _).trans ((gcpy_ne (by omega)).trans ((congrFun (congrFun e2 _) _).trans ((gcpy_ne (by omega)).trans rfl))))))))))))))))))))), (fun b h0 h1 => ((congrFun (congrFun e23 _) _).trans ((gset_ne (by omega)).trans ((congrFun (congrFun e20 _) _).trans ((gset_ne (by omega)).trans ((congrFun (congrFun e17 _) _).trans ((gset_ne (by omega)).trans ((congrFun (congrFun e14 _) _).trans ((gcpy_ne (by omega)).trans ((congrFun (congrFun e12 _) _).trans ((gcpy_in (by omega)).trans ((congrFun (congrFun e10 _) _).trans ((gcpy_ne (by omega)).trans ((congrFun (congrFun e8 _) _).trans ((gcpy_ne (by omega)).trans ((congrFun (congrFun e6 _) _).trans ((gcpy_ne (by omega)).trans ((congrFun (congrFun e4 _) _).trans ((gcpy_ne (by omega)).trans ((congrFun (congrFun e2 _) _).trans ((gcpy_ne (by omega)).trans rfl))))))))))))))))))))), (fun b h0 h1 => ((congrFun (congrFun e23 _) _).trans ((gset_ne (by omega)).trans ((congrFun (congrFun e20 _) _).trans ((gset_ne (by omega)).trans ((congrFun (congrFun e17 _) _).trans ((gset_ne (by omega)).trans ((congrFun (congrFun e14 _) _).trans ((gcpy_in (by omega)).trans ((congrFun (congrFun e12 _) _).trans ((gcpy_ne (by omega)).trans ((congrFun (congrFun e10 _) _).trans ((gcpy_ne (by omega)).trans ((congrFun (congrFun e8 _) _).trans ((gcpy_ne (by omega)).trans ((congrFun (congrFun e6 _) _).trans ((gcpy_ne (by omega)).trans ((congrFun (congrFun e4 _) _).trans ((gcpy_ne (by omega)).trans ((congrFun (congrFun e2 _) _).trans ((gcpy_ne (by omega)).trans rfl))))))))))))))))))))), (((congrFun (congrFun e23 _) _).trans ((gset_ne (by omega)).trans ((congrFun (congrFun e20 _) _).trans ((gset_ne (by omega)).trans ((congrFun (congrFun e17 _) _).trans (gset_eq _ _ _ _)))))).trans ((hv15 : M13 220 7 = v15).symm.trans ((congrFun (congrFun e14 _) _).trans ((gcpy_ne (by omega)).trans ((congrFun (congrFun e12 _) _).trans ((gcpy_ne (by omega)).trans ((congrFun (congrFun e10 _) _).trans ((gcpy_ne (by omega)).trans ((congrFun (congrFun e8 _) _).trans ((gcpy_ne (by omega)).trans ((congrFun (congrFun e6 _) _).trans ((gcpy_ne (by omega)).trans ((congrFun (congrFun e4 _) _).trans ((gcpy_ne (by omega)).trans ((congrFun (congrFun e2 _) _).trans ((gcpy_ne (by omega)).trans rfl)))))))))))))))), (((congrFun (congrFun e23 _) _).trans ((gset_ne (by omega)).trans ((congrFun (congrFun e20 _) _).trans (gset_eq _ _ _ _)))).trans ((hv18 : M16 220 8 = v18).symm.trans ((congrFun (congrFun e17 _) _).trans ((gset_ne (by omega)).trans ((congrFun (congrFun e14 _) _).trans ((gcpy_ne (by omega)).trans ((congrFun (congrFun e12 _) _).trans ((gcpy_ne (by omega)).trans ((congrFun (congrFun e10 _) _).trans ((gcpy_ne (by omega)).trans ((congrFun (congrFun e8 _) _).trans ((gcpy_ne (by omega)).trans ((congrFun (congrFun e6 _) _).trans ((gcpy_ne (by omega)).trans ((congrFun (congrFun e4 _) _).trans ((gcpy_ne (by omega)).trans ((congrFun (congrFun e2 _) _).trans ((gcpy_ne (by omega)).trans rfl)))))))))))))))))), (((congrFun (congrFun e23 _) _).trans (gset_eq _ _ _ _)).trans ((hv21 : M19 220 9 = v21).symm.trans ((congrFun (congrFun e20 _) _).trans ((gset_ne (by omega)).trans ((congrFun (congrFun e17 _) _).trans ((gset_ne (by omega)).trans ((congrFun (congrFun e14 _) _).trans ((gcpy_ne (by omega)).trans ((congrFun (congrFun e12 _) _).trans ((gcpy_ne (by omega)).trans ((congrFun (congrFun e10 _) _).trans ((gcpy_ne (by omega)).trans ((congrFun (congrFun e8 _) _).trans ((gcpy_ne (by omega)).trans ((congrFun (congrFun e6 _) _).trans ((gcpy_ne (by omega)).trans ((congrFun (congrFun e4 _) _).trans ((gcpy_ne (by omega)).trans ((congrFun (congrFun e2 _) _).trans ((gcpy_ne (by omega)).trans rfl))))))))))))))))))))⟩⟩
theorem dX3_copyFrom_0 : decode cX3_copyFrom 0 = .ok (.aload_n 1, 1) := dc_43 (by decide +kernel)
theorem dX3_copyFrom_1 : decode cX3_copyFrom 1 = .ok (.getfield 9, 3) := dc_180 0 9 (by decide +kernel)
theorem kw_1_41 : (Jvm.Cond.fieldLink "ParishUnion$Land" (9 : Nat) "ParishUnion$Land" "rents" "[I") ∈ gT := gT_of (tb_1 _ (List.mem_of_getElem? (i := 41) rfl)) rfl
theorem dX3_copyFrom_4 : decode cX3_copyFrom 4 = .ok (.iconst 0, 1) := dc_3 (by decide +kernel)
theorem dX3_copyFrom_5 : decode cX3_copyFrom 5 = .ok (.aload_n 0, 1) := dc_42 (by decide +kernel)
theorem dX3_copyFrom_6 : decode cX3_copyFrom 6 = .ok (.getfield 9, 3) := dc_180 0 9 (by decide +kernel)
theorem rf_207_0 {sz : Nat} {M : gM} (I : gI sz M) (h : (207 : Int) < (sz : Int)) : M 207 0 = 208 + 1 := gI.rf I (by decide) h (by decide +kernel)
theorem dX3_copyFrom_9 : decode cX3_copyFrom 9 = .ok (.iconst 0, 1) := dc_3 (by decide +kernel)
theorem dX3_copyFrom_10 : decode cX3_copyFrom 10 = .ok (.bipush 6, 2) := dc_16 6 6 (by decide +kernel)
theorem dX3_copyFrom_12 : decode cX3_copyFrom 12 = .ok (.invokestatic 18, 3) := dc_184 0 18 (by decide +kernel)
theorem kw_5_220 : (Jvm.Cond.methodLink "ParishUnion$Land" (18 : Nat) ({ cls := "java/lang/System", name := "arraycopy", desc := "(Ljava/lang/Object;ILjava/lang/Object;II)V" } : Jvm.MethodName)) ∈ gT := gT_of (tb_5 _ (List.mem_of_getElem? (i := 220) rfl)) rfl
theorem ra_208 (k : Int) : gRg 208 k = (0, 9999) ∧ gCr 208 k = false ∧ gG 208 k = 76 := ⟨rfl, rfl, rfl⟩
theorem dX3_copyFrom_15 : decode cX3_copyFrom 15 = .ok (.aload_n 1, 1) := dc_43 (by decide +kernel)
theorem dX3_copyFrom_16 : decode cX3_copyFrom 16 = .ok (.getfield 15, 3) := dc_180 0 15 (by decide +kernel)
theorem dX3_copyFrom_19 : decode cX3_copyFrom 19 = .ok (.iconst 0, 1) := dc_3 (by decide +kernel)
theorem dX3_copyFrom_20 : decode cX3_copyFrom 20 = .ok (.aload_n 0, 1) := dc_42 (by decide +kernel)
theorem dX3_copyFrom_21 : decode cX3_copyFrom 21 = .ok (.getfield 15, 3) := dc_180 0 15 (by decide +kernel)
theorem rf_207_1 {sz : Nat} {M : gM} (I : gI sz M) (h : (207 : Int) < (sz : Int)) : M 207 1 = 209 + 1 := gI.rf I (by decide) h (by decide +kernel)
theorem dX3_copyFrom_24 : decode cX3_copyFrom 24 = .ok (.iconst 0, 1) := dc_3 (by decide +kernel)
theorem dX3_copyFrom_25 : decode cX3_copyFrom 25 = .ok (.aload_n 0, 1) := dc_42 (by decide +kernel)
theorem dX3_copyFrom_26 : decode cX3_copyFrom 26 = .ok (.getfield 15, 3) := dc_180 0 15 (by decide +kernel)
theorem dX3_copyFrom_29 : decode cX3_copyFrom 29 = .ok (.arraylength, 1) := dc_190 (by decide +kernel)
theorem dX3_copyFrom_30 : decode cX3_copyFrom 30 = .ok (.invokestatic 18, 3) := dc_184 0 18 (by decide +kernel)
theorem ra_209 (k : Int) : gRg 209 k = (0, 99) ∧ gCr 209 k = false ∧ gG 209 k = 76 := ⟨rfl, rfl, rfl⟩
theorem dX3_copyFrom_33 : decode cX3_copyFrom 33 = .ok (.return_, 1) := dc_177 (by decide +kernel)
abbrev R_s_X3_copyFrom_207_2 : Room := { frames := 4, cells := 0, slots := 0, locals := 120 }
set_option maxRecDepth 100000 in
set_option maxHeartbeats 4000000 in
theorem s_X3_copyFrom_207_2 {l : Launch} {n0 : Nat} {D : va_G} {cA : Nat → ClassId} {M : gM}  {sz : Nat} (hsz : 206 ≤ sz) (I : gI sz M) (C : gC sz M) (hsz8 : sz = 358)  : Met l yX3_copyFrom (gWsOf yX3_copyFrom cX3_copyFrom 2 (Option.none : Option Jvm.ClassFile.FieldType)) R_s_X3_copyFrom_207_2 (gPc n0 D cA [gA n0 207, gA n0 2] M sz) (gQv n0 D cA sz (fun M1 => gI sz M1 ∧ gC sz M1 ∧ gFr 75557863725914323419136 M M1 ∧ ((∀ b : Int, 0 ≤ b → b < 6 → M1 208 b = M 3 b) ∧ (∀ b : Int, 0 ≤ b → b < 36 → M1 209 b = M 4 b)))) 0 0 (fun q => n0 ≤ q) := by
  refine gMetV [gA n0 207, gA n0 2] (by decide) (Nat.le_of_ble_eq_true rfl) ⟨rfl, rfl⟩ ?_
  intro p e s m args below meth cd Q X hq
  have X : gCx p s m args meth cd n0 D cA "ParishUnion$Land" cX3_copyFrom 2 := X
  show G p l e R_s_X3_copyFrom_207_2 s m args below meth cd n0 D cA 2 Q 0 0 M sz 0 [(0, gA n0 207), (1, gA n0 2)] []
  refine g_aload_n (n := 1) X 1 dX3_copyFrom_0 rfl rfl rfl ?_
  refine gg_3_0 (n := 4) (z := 3) X (by decide) (gsz hsz (by decide)) lay_2 kw_1_41 dX3_copyFrom_1 rfl (rf_2_0 I (gsz hsz (by decide))) (by decide) ?_
  refine g_iconst (n := 5) X dX3_copyFrom_4 rfl ?_
  refine g_aload_n (n := 6) X 0 dX3_copyFrom_5 rfl rfl rfl ?_
  refine gg_3_0 (n := 9) (z := 208) X (by decide) (by omega) lay_207 kw_1_41 dX3_copyFrom_6 rfl (rf_207_0 I (by omega)) (by decide) ?_
  refine g_iconst (n := 10) X dX3_copyFrom_9 rfl ?_
  refine g_bipush (n := 12) X dX3_copyFrom_10 (by decide +kernel) rfl ?_
  refine g_acopyI (n := 15) X kw_5_220 kw_3_209 kw_3_208 kw_1_16 (by decide) (gsz hsz (by decide)) lay_3 (by decide) (by omega) lay_208 (by omega) (by omega) (by omega) (by omega) (Nat.le_of_ble_eq_true rfl) (Nat.le_of_ble_eq_true rfl) dX3_copyFrom_12 rfl ?_
  refine G.nm (fun M1 e2 => ?_)
  have IM1 : gI sz M1 := gI.cpy I (by decide) (gsz hsz (by decide)) (fun k => ((ra_208 k).1.trans (ra_3 k).1.symm)) e2
  have CM1 : gC sz M1 := gC.cpy C (fun k => (ra_208 k).2.1) e2
  refine g_aload_n (n := 16) X 1 dX3_copyFrom_15 rfl rfl rfl ?_
  refine gg_3_1 (n := 19) (z := 4) X (by decide) (gsz hsz (by decide)) lay_2 kw_1_43 dX3_copyFrom_16 rfl (rf_2_1 IM1 (gsz hsz (by decide))) (by decide) ?_
  refine g_iconst (n := 20) X dX3_copyFrom_19 rfl ?_
  refine g_aload_n (n := 21) X 0 dX3_copyFrom_20 rfl rfl rfl ?_
  refine gg_3_1 (n := 24) (z := 209) X (by decide) (by omega) lay_207 kw_1_43 dX3_copyFrom_21 rfl (rf_207_1 IM1 (by omega)) (by decide) ?_
  refine g_iconst (n := 25) X dX3_copyFrom_24 rfl ?_
  refine g_aload_n (n := 26) X 0 dX3_copyFrom_25 rfl rfl rfl ?_
  refine gg_3_1 (n := 29) (z := 209) X (by decide) (by omega) lay_207 kw_1_43 dX3_copyFrom_26 rfl (rf_207_1 IM1 (by omega)) (by decide) ?_
  refine g_aleni (n := 30) (z := 36) X (by decide) (by omega) lay_209 (by decide +kernel) dX3_copyFrom_29 rfl ?_
  refine g_acopyI (n := 33) X kw_5_220 kw_3_209 kw_3_208 kw_1_16 (by decide) (gsz hsz (by decide)) lay_4 (by decide) (by omega) lay_209 (by omega) (by omega) (by omega) (by omega) (Nat.le_of_ble_eq_true rfl) (Nat.le_of_ble_eq_true rfl) dX3_copyFrom_30 rfl ?_
  refine G.nm (fun M3 e4 => ?_)
  have IM3 : gI sz M3 := gI.cpy IM1 (by decide) (gsz hsz (by decide)) (fun k => ((ra_209 k).1.trans (ra_4 k).1.symm)) e4
  have CM3 : gC sz M3 := gC.cpy CM1 (fun k => (ra_209 k).2.1) e4
  exact hq _ _ _ dX3_copyFrom_33 ⟨IM3, CM3, (gFr.y (gFr.y gFr.rf e2 (fun k => (ra_208 k).2.2) rfl) e4 (fun k => (ra_209 k).2.2) rfl), ⟨(fun b h0 h1 => ((congrFun (congrFun e4 _) _).trans ((gcpy_ne (by omega)).trans ((congrFun (congrFun e2 _) _).trans ((gcpy_in (by omega)).trans rfl))))), (fun b h0 h1 => ((congrFun (congrFun e4 _) _).trans ((gcpy_in (by omega)).trans ((congrFun (congrFun e2 _) _).trans ((gcpy_ne (by omega)).trans rfl)))))⟩⟩
abbrev R_s_X3_copyFrom_2_207 : Room := { frames := 4, cells := 0, slots := 0, locals := 120 }
set_option maxRecDepth 100000 in
set_option maxHeartbeats 4000000 in
theorem s_X3_copyFrom_2_207 {l : Launch} {n0 : Nat} {D : va_G} {cA : Nat → ClassId} {M : gM}  {sz : Nat} (hsz : 206 ≤ sz) (I : gI sz M) (C : gC sz M) (hsz8 : sz = 358)  : Met l yX3_copyFrom (gWsOf yX3_copyFrom cX3_copyFrom 2 (Option.none : Option Jvm.ClassFile.FieldType)) R_s_X3_copyFrom_2_207 (gPc n0 D cA [gA n0 2, gA n0 207] M sz) (gQv n0 D cA sz (fun M1 => gI sz M1 ∧ gC sz M1 ∧ gFr 6 M M1 ∧ ((∀ b : Int, 0 ≤ b → b < 6 → M1 3 b = M 208 b) ∧ (∀ b : Int, 0 ≤ b → b < 36 → M1 4 b = M 209 b)))) 0 0 (fun q => n0 ≤ q) := by
  refine gMetV [gA n0 2, gA n0 207] (by decide) (Nat.le_of_ble_eq_true rfl) ⟨rfl, rfl⟩ ?_
  intro p e s m args below meth cd Q X hq
  have X : gCx p s m args meth cd n0 D cA "ParishUnion$Land" cX3_copyFrom 2 := X
  show G p l e R_s_X3_copyFrom_2_207 s m args below meth cd n0 D cA 2 Q 0 0 M sz 0 [(0, gA n0 2), (1, gA n0 207)] []
  refine g_aload_n (n := 1) X 1 dX3_copyFrom_0 rfl rfl rfl ?_
  refine gg_3_0 (n := 4) (z := 208) X (by decide) (by omega) lay_207 kw_1_41 dX3_copyFrom_1 rfl (rf_207_0 I (by omega)) (by decide) ?_
  refine g_iconst (n := 5) X dX3_copyFrom_4 rfl ?_
  refine g_aload_n (n := 6) X 0 dX3_copyFrom_5 rfl rfl rfl ?_
  refine gg_3_0 (n := 9) (z := 3) X (by decide) (gsz hsz (by decide)) lay_2 kw_1_41 dX3_copyFrom_6 rfl (rf_2_0 I (gsz hsz (by decide))) (by decide) ?_
  refine g_iconst (n := 10) X dX3_copyFrom_9 rfl ?_
  refine g_bipush (n := 12) X dX3_copyFrom_10 (by decide +kernel) rfl ?_
  refine g_acopyI (n := 15) X kw_5_220 kw_3_209 kw_3_208 kw_1_16 (by decide) (by omega) lay_208 (by decide) (gsz hsz (by decide)) lay_3 (by omega) (by omega) (by omega) (by omega) (Nat.le_of_ble_eq_true rfl) (Nat.le_of_ble_eq_true rfl) dX3_copyFrom_12 rfl ?_
  refine G.nm (fun M1 e2 => ?_)
  have IM1 : gI sz M1 := gI.cpy I (by decide) (by omega) (fun k => ((ra_3 k).1.trans (ra_208 k).1.symm)) e2
  have CM1 : gC sz M1 := gC.cpy C (fun k => (ra_3 k).2.1) e2
  refine g_aload_n (n := 16) X 1 dX3_copyFrom_15 rfl rfl rfl ?_
  refine gg_3_1 (n := 19) (z := 209) X (by decide) (by omega) lay_207 kw_1_43 dX3_copyFrom_16 rfl (rf_207_1 IM1 (by omega)) (by decide) ?_
  refine g_iconst (n := 20) X dX3_copyFrom_19 rfl ?_
  refine g_aload_n (n := 21) X 0 dX3_copyFrom_20 rfl rfl rfl ?_
  refine gg_3_1 (n := 24) (z := 4) X (by decide) (gsz hsz (by decide)) lay_2 kw_1_43 dX3_copyFrom_21 rfl (rf_2_1 IM1 (gsz hsz (by decide))) (by decide) ?_
  refine g_iconst (n := 25) X dX3_copyFrom_24 rfl ?_
  refine g_aload_n (n := 26) X 0 dX3_copyFrom_25 rfl rfl rfl ?_
  refine gg_3_1 (n := 29) (z := 4) X (by decide) (gsz hsz (by decide)) lay_2 kw_1_43 dX3_copyFrom_26 rfl (rf_2_1 IM1 (gsz hsz (by decide))) (by decide) ?_
  refine g_aleni (n := 30) (z := 36) X (by decide) (gsz hsz (by decide)) lay_4 (by decide +kernel) dX3_copyFrom_29 rfl ?_
  refine g_acopyI (n := 33) X kw_5_220 kw_3_209 kw_3_208 kw_1_16 (by decide) (by omega) lay_209 (by decide) (gsz hsz (by decide)) lay_4 (by omega) (by omega) (by omega) (by omega) (Nat.le_of_ble_eq_true rfl) (Nat.le_of_ble_eq_true rfl) dX3_copyFrom_30 rfl ?_
  refine G.nm (fun M3 e4 => ?_)
  have IM3 : gI sz M3 := gI.cpy IM1 (by decide) (by omega) (fun k => ((ra_4 k).1.trans (ra_209 k).1.symm)) e4
  have CM3 : gC sz M3 := gC.cpy CM1 (fun k => (ra_4 k).2.1) e4
  exact hq _ _ _ dX3_copyFrom_33 ⟨IM3, CM3, (gFr.y (gFr.y gFr.rf e2 (fun k => (ra_3 k).2.2) rfl) e4 (fun k => (ra_4 k).2.2) rfl), ⟨(fun b h0 h1 => ((congrFun (congrFun e4 _) _).trans ((gcpy_ne (by omega)).trans ((congrFun (congrFun e2 _) _).trans ((gcpy_in (by omega)).trans rfl))))), (fun b h0 h1 => ((congrFun (congrFun e4 _) _).trans ((gcpy_in (by omega)).trans ((congrFun (congrFun e2 _) _).trans ((gcpy_ne (by omega)).trans rfl)))))⟩⟩
theorem dX10_copyFrom_0 : decode cX10_copyFrom 0 = .ok (.aload_n 1, 1) := dc_43 (by decide +kernel)
theorem dX10_copyFrom_1 : decode cX10_copyFrom 1 = .ok (.getfield 9, 3) := dc_180 0 9 (by decide +kernel)
theorem dX10_copyFrom_4 : decode cX10_copyFrom 4 = .ok (.iconst 0, 1) := dc_3 (by decide +kernel)
theorem dX10_copyFrom_5 : decode cX10_copyFrom 5 = .ok (.aload_n 0, 1) := dc_42 (by decide +kernel)
theorem dX10_copyFrom_6 : decode cX10_copyFrom 6 = .ok (.getfield 9, 3) := dc_180 0 9 (by decide +kernel)
theorem rf_231_0 {sz : Nat} {M : gM} (I : gI sz M) (h : (231 : Int) < (sz : Int)) : M 231 0 = 232 + 1 := gI.rf I (by decide) h (by decide +kernel)
theorem dX10_copyFrom_9 : decode cX10_copyFrom 9 = .ok (.iconst 0, 1) := dc_3 (by decide +kernel)
theorem dX10_copyFrom_10 : decode cX10_copyFrom 10 = .ok (.bipush 40, 2) := dc_16 40 40 (by decide +kernel)
theorem dX10_copyFrom_12 : decode cX10_copyFrom 12 = .ok (.invokestatic 21, 3) := dc_184 0 21 (by decide +kernel)
theorem kw_6_8 : (Jvm.Cond.methodLink "ParishUnion$Vagrants" (21 : Nat) ({ cls := "java/lang/System", name := "arraycopy", desc := "(Ljava/lang/Object;ILjava/lang/Object;II)V" } : Jvm.MethodName)) ∈ gT := gT_of (tb_6 _ (List.mem_of_getElem? (i := 8) rfl)) rfl
theorem ra_232 (k : Int) : gRg 232 k = (0, 7) ∧ gCr 232 k = false ∧ gG 232 k = 82 := ⟨rfl, rfl, rfl⟩
theorem dX10_copyFrom_15 : decode cX10_copyFrom 15 = .ok (.aload_n 1, 1) := dc_43 (by decide +kernel)
theorem dX10_copyFrom_16 : decode cX10_copyFrom 16 = .ok (.getfield 15, 3) := dc_180 0 15 (by decide +kernel)
theorem dX10_copyFrom_19 : decode cX10_copyFrom 19 = .ok (.iconst 0, 1) := dc_3 (by decide +kernel)
theorem dX10_copyFrom_20 : decode cX10_copyFrom 20 = .ok (.aload_n 0, 1) := dc_42 (by decide +kernel)
theorem dX10_copyFrom_21 : decode cX10_copyFrom 21 = .ok (.getfield 15, 3) := dc_180 0 15 (by decide +kernel)
theorem rf_231_1 {sz : Nat} {M : gM} (I : gI sz M) (h : (231 : Int) < (sz : Int)) : M 231 1 = 233 + 1 := gI.rf I (by decide) h (by decide +kernel)
theorem dX10_copyFrom_24 : decode cX10_copyFrom 24 = .ok (.iconst 0, 1) := dc_3 (by decide +kernel)
theorem dX10_copyFrom_25 : decode cX10_copyFrom 25 = .ok (.bipush 40, 2) := dc_16 40 40 (by decide +kernel)
theorem dX10_copyFrom_27 : decode cX10_copyFrom 27 = .ok (.invokestatic 21, 3) := dc_184 0 21 (by decide +kernel)
theorem ra_233 (k : Int) : gRg 233 k = (0, 5) ∧ gCr 233 k = false ∧ gG 233 k = 82 := ⟨rfl, rfl, rfl⟩
theorem dX10_copyFrom_30 : decode cX10_copyFrom 30 = .ok (.aload_n 1, 1) := dc_43 (by decide +kernel)
theorem dX10_copyFrom_31 : decode cX10_copyFrom 31 = .ok (.getfield 18, 3) := dc_180 0 18 (by decide +kernel)
theorem dX10_copyFrom_34 : decode cX10_copyFrom 34 = .ok (.iconst 0, 1) := dc_3 (by decide +kernel)
theorem dX10_copyFrom_35 : decode cX10_copyFrom 35 = .ok (.aload_n 0, 1) := dc_42 (by decide +kernel)
theorem dX10_copyFrom_36 : decode cX10_copyFrom 36 = .ok (.getfield 18, 3) := dc_180 0 18 (by decide +kernel)
theorem rf_231_2 {sz : Nat} {M : gM} (I : gI sz M) (h : (231 : Int) < (sz : Int)) : M 231 2 = 234 + 1 := gI.rf I (by decide) h (by decide +kernel)
theorem dX10_copyFrom_39 : decode cX10_copyFrom 39 = .ok (.iconst 0, 1) := dc_3 (by decide +kernel)
theorem dX10_copyFrom_40 : decode cX10_copyFrom 40 = .ok (.bipush 40, 2) := dc_16 40 40 (by decide +kernel)
theorem dX10_copyFrom_42 : decode cX10_copyFrom 42 = .ok (.invokestatic 21, 3) := dc_184 0 21 (by decide +kernel)
theorem ra_234 (k : Int) : gRg 234 k = (0, 300) ∧ gCr 234 k = false ∧ gG 234 k = 82 := ⟨rfl, rfl, rfl⟩
theorem dX10_copyFrom_45 : decode cX10_copyFrom 45 = .ok (.aload_n 0, 1) := dc_42 (by decide +kernel)
theorem dX10_copyFrom_46 : decode cX10_copyFrom 46 = .ok (.aload_n 1, 1) := dc_43 (by decide +kernel)
theorem dX10_copyFrom_47 : decode cX10_copyFrom 47 = .ok (.getfield 27, 3) := dc_180 0 27 (by decide +kernel)
theorem dX10_copyFrom_50 : decode cX10_copyFrom 50 = .ok (.putfield 27, 3) := dc_181 0 27 (by decide +kernel)
theorem rc_231_3 : gRg 231 3 = (0, 40) ∧ gCr 231 3 = false ∧ gG 231 3 = 82 := by decide +kernel
theorem dX10_copyFrom_53 : decode cX10_copyFrom 53 = .ok (.return_, 1) := dc_177 (by decide +kernel)
abbrev R_s_X10_copyFrom_231_26 : Room := { frames := 4, cells := 0, slots := 0, locals := 120 }
set_option maxRecDepth 100000 in
set_option maxHeartbeats 4000000 in
theorem s_X10_copyFrom_231_26 {l : Launch} {n0 : Nat} {D : va_G} {cA : Nat → ClassId} {M : gM}  {sz : Nat} (hsz : 206 ≤ sz) (I : gI sz M) (C : gC sz M) (hsz8 : sz = 358)  : Met l yX10_copyFrom (gWsOf yX10_copyFrom cX10_copyFrom 2 (Option.none : Option Jvm.ClassFile.FieldType)) R_s_X10_copyFrom_231_26 (gPc n0 D cA [gA n0 231, gA n0 26] M sz) (gQv n0 D cA sz (fun M1 => gI sz M1 ∧ gC sz M1 ∧ gFr 4835703278458516698824704 M M1 ∧ ((∀ b : Int, 0 ≤ b → b < 40 → M1 232 b = M 27 b) ∧ (∀ b : Int, 0 ≤ b → b < 40 → M1 233 b = M 28 b) ∧ (∀ b : Int, 0 ≤ b → b < 40 → M1 234 b = M 29 b) ∧ M1 231 3 = M 26 3))) 0 0 (fun q => n0 ≤ q) := by
  refine gMetV [gA n0 231, gA n0 26] (by decide) (Nat.le_of_ble_eq_true rfl) ⟨rfl, rfl⟩ ?_
  intro p e s m args below meth cd Q X hq
  have X : gCx p s m args meth cd n0 D cA "ParishUnion$Vagrants" cX10_copyFrom 2 := X
  show G p l e R_s_X10_copyFrom_231_26 s m args below meth cd n0 D cA 2 Q 0 0 M sz 0 [(0, gA n0 231), (1, gA n0 26)] []
  refine g_aload_n (n := 1) X 1 dX10_copyFrom_0 rfl rfl rfl ?_
  refine gg_10_0 (n := 4) (z := 27) X (by decide) (gsz hsz (by decide)) lay_26 kw_1_156 dX10_copyFrom_1 rfl (rf_26_0 I (gsz hsz (by decide))) (by decide) ?_
  refine g_iconst (n := 5) X dX10_copyFrom_4 rfl ?_
  refine g_aload_n (n := 6) X 0 dX10_copyFrom_5 rfl rfl rfl ?_
  refine gg_10_0 (n := 9) (z := 232) X (by decide) (by omega) lay_231 kw_1_156 dX10_copyFrom_6 rfl (rf_231_0 I (by omega)) (by decide) ?_
  refine g_iconst (n := 10) X dX10_copyFrom_9 rfl ?_
  refine g_bipush (n := 12) X dX10_copyFrom_10 (by decide +kernel) rfl ?_
  refine g_acopyI (n := 15) X kw_6_8 kw_3_209 kw_3_208 kw_1_16 (by decide) (gsz hsz (by decide)) lay_27 (by decide) (by omega) lay_232 (by omega) (by omega) (by omega) (by omega) (Nat.le_of_ble_eq_true rfl) (Nat.le_of_ble_eq_true rfl) dX10_copyFrom_12 rfl ?_
  refine G.nm (fun M1 e2 => ?_)
  have IM1 : gI sz M1 := gI.cpy I (by decide) (gsz hsz (by decide)) (fun k => ((ra_232 k).1.trans (ra_27 k).1.symm)) e2
  have CM1 : gC sz M1 := gC.cpy C (fun k => (ra_232 k).2.1) e2
  refine g_aload_n (n := 16) X 1 dX10_copyFrom_15 rfl rfl rfl ?_
  refine gg_10_1 (n := 19) (z := 28) X (by decide) (gsz hsz (by decide)) lay_26 kw_1_157 dX10_copyFrom_16 rfl (rf_26_1 IM1 (gsz hsz (by decide))) (by decide) ?_
  refine g_iconst (n := 20) X dX10_copyFrom_19 rfl ?_
  refine g_aload_n (n := 21) X 0 dX10_copyFrom_20 rfl rfl rfl ?_
  refine gg_10_1 (n := 24) (z := 233) X (by decide) (by omega) lay_231 kw_1_157 dX10_copyFrom_21 rfl (rf_231_1 IM1 (by omega)) (by decide) ?_
  refine g_iconst (n := 25) X dX10_copyFrom_24 rfl ?_
  refine g_bipush (n := 27) X dX10_copyFrom_25 (by decide +kernel) rfl ?_
  refine g_acopyI (n := 30) X kw_6_8 kw_3_209 kw_3_208 kw_1_16 (by decide) (gsz hsz (by decide)) lay_28 (by decide) (by omega) lay_233 (by omega) (by omega) (by omega) (by omega) (Nat.le_of_ble_eq_true rfl) (Nat.le_of_ble_eq_true rfl) dX10_copyFrom_27 rfl ?_
  refine G.nm (fun M3 e4 => ?_)
  have IM3 : gI sz M3 := gI.cpy IM1 (by decide) (gsz hsz (by decide)) (fun k => ((ra_233 k).1.trans (ra_28 k).1.symm)) e4
  have CM3 : gC sz M3 := gC.cpy CM1 (fun k => (ra_233 k).2.1) e4
  refine g_aload_n (n := 31) X 1 dX10_copyFrom_30 rfl rfl rfl ?_
  refine gg_10_2 (n := 34) (z := 29) X (by decide) (gsz hsz (by decide)) lay_26 kw_1_158 dX10_copyFrom_31 rfl (rf_26_2 IM3 (gsz hsz (by decide))) (by decide) ?_
  refine g_iconst (n := 35) X dX10_copyFrom_34 rfl ?_
  refine g_aload_n (n := 36) X 0 dX10_copyFrom_35 rfl rfl rfl ?_
  refine gg_10_2 (n := 39) (z := 234) X (by decide) (by omega) lay_231 kw_1_158 dX10_copyFrom_36 rfl (rf_231_2 IM3 (by omega)) (by decide) ?_
  refine g_iconst (n := 40) X dX10_copyFrom_39 rfl ?_
  refine g_bipush (n := 42) X dX10_copyFrom_40 (by decide +kernel) rfl ?_
  refine g_acopyI (n := 45) X kw_6_8 kw_3_209 kw_3_208 kw_1_16 (by decide) (gsz hsz (by decide)) lay_29 (by decide) (by omega) lay_234 (by omega) (by omega) (by omega) (by omega) (Nat.le_of_ble_eq_true rfl) (Nat.le_of_ble_eq_true rfl) dX10_copyFrom_42 rfl ?_
  refine G.nm (fun M5 e6 => ?_)
  have IM5 : gI sz M5 := gI.cpy IM3 (by decide) (gsz hsz (by decide)) (fun k => ((ra_234 k).1.trans (ra_29 k).1.symm)) e6
  have CM5 : gC sz M5 := gC.cpy CM3 (fun k => (ra_234 k).2.1) e6
  refine g_aload_n (n := 46) X 0 dX10_copyFrom_45 rfl rfl rfl ?_
  refine g_aload_n (n := 47) X 1 dX10_copyFrom_46 rfl rfl rfl ?_
  obtain ⟨v7, hv7, rv7⟩ := gRd IM5 (by decide) (gsz hsz (by decide)) rc_26_3.1
  refine gg_10_3 (n := 50) (z := v7) X (by decide) (gsz hsz (by decide)) lay_26 kw_1_159 dX10_copyFrom_47 rfl hv7 ?_
  refine gp_10_3 (n := 53) X (by decide) (by omega) lay_231 kw_1_159 dX10_copyFrom_50 rfl ?_
  refine G.nm (fun M8 e9 => ?_)
  have IM8 : gI sz M8 := gI.set IM5 rc_231_3.1 (by omega) e9
  have CM8 : gC sz M8 := gC.set CM5 rc_231_3.2.1 e9
  exact hq _ _ _ dX10_copyFrom_53 ⟨IM8, CM8, (gFr.s (gFr.y (gFr.y (gFr.y gFr.rf e2 (fun k => (ra_232 k).2.2) rfl) e4 (fun k => (ra_233 k).2.2) rfl) e6 (fun k => (ra_234 k).2.2) rfl) e9 rc_231_3.2.2 rfl), ⟨(fun b h0 h1 => ((congrFun (congrFun e9 _) _).trans ((gset_ne (by omega)).trans ((congrFun (congrFun e6 _) _).trans ((gcpy_ne (by omega)).trans ((congrFun (congrFun e4 _) _).trans ((gcpy_ne (by omega)).trans ((congrFun (congrFun e2 _) _).trans ((gcpy_in (by omega)).trans rfl))))))))), (fun b h0 h1 => ((congrFun (congrFun e9 _) _).trans ((gset_ne (by omega)).trans ((congrFun (congrFun e6 _) _).trans ((gcpy_ne (by omega)).trans ((congrFun (congrFun e4 _) _).trans ((gcpy_in (by omega)).trans ((congrFun (congrFun e2 _) _).trans ((gcpy_ne (by omega)).trans rfl))))))))), (fun b h0 h1 => ((congrFun (congrFun e9 _) _).trans ((gset_ne (by omega)).trans ((congrFun (congrFun e6 _) _).trans ((gcpy_in (by omega)).trans ((congrFun (congrFun e4 _) _).trans ((gcpy_ne (by omega)).trans ((congrFun (congrFun e2 _) _).trans ((gcpy_ne (by omega)).trans rfl))))))))), (((congrFun (congrFun e9 _) _).trans (gset_eq _ _ _ _)).trans ((hv7 : M5 26 3 = v7).symm.trans ((congrFun (congrFun e6 _) _).trans ((gcpy_ne (by omega)).trans ((congrFun (congrFun e4 _) _).trans ((gcpy_ne (by omega)).trans ((congrFun (congrFun e2 _) _).trans ((gcpy_ne (by omega)).trans rfl))))))))⟩⟩
abbrev R_s_X10_copyFrom_26_231 : Room := { frames := 4, cells := 0, slots := 0, locals := 120 }
set_option maxRecDepth 100000 in
set_option maxHeartbeats 4000000 in
theorem s_X10_copyFrom_26_231 {l : Launch} {n0 : Nat} {D : va_G} {cA : Nat → ClassId} {M : gM}  {sz : Nat} (hsz : 206 ≤ sz) (I : gI sz M) (C : gC sz M) (hsz8 : sz = 358)  : Met l yX10_copyFrom (gWsOf yX10_copyFrom cX10_copyFrom 2 (Option.none : Option Jvm.ClassFile.FieldType)) R_s_X10_copyFrom_26_231 (gPc n0 D cA [gA n0 26, gA n0 231] M sz) (gQv n0 D cA sz (fun M1 => gI sz M1 ∧ gC sz M1 ∧ gFr 393216 M M1 ∧ ((∀ b : Int, 0 ≤ b → b < 40 → M1 27 b = M 232 b) ∧ (∀ b : Int, 0 ≤ b → b < 40 → M1 28 b = M 233 b) ∧ (∀ b : Int, 0 ≤ b → b < 40 → M1 29 b = M 234 b) ∧ M1 26 3 = M 231 3))) 0 0 (fun q => n0 ≤ q) := by
  refine gMetV [gA n0 26, gA n0 231] (by decide) (Nat.le_of_ble_eq_true rfl) ⟨rfl, rfl⟩ ?_
  intro p e s m args below meth cd Q X hq
  have X : gCx p s m args meth cd n0 D cA "ParishUnion$Vagrants" cX10_copyFrom 2 := X
  show G p l e R_s_X10_copyFrom_26_231 s m args below meth cd n0 D cA 2 Q 0 0 M sz 0 [(0, gA n0 26), (1, gA n0 231)] []
  refine g_aload_n (n := 1) X 1 dX10_copyFrom_0 rfl rfl rfl ?_
  refine gg_10_0 (n := 4) (z := 232) X (by decide) (by omega) lay_231 kw_1_156 dX10_copyFrom_1 rfl (rf_231_0 I (by omega)) (by decide) ?_
  refine g_iconst (n := 5) X dX10_copyFrom_4 rfl ?_
  refine g_aload_n (n := 6) X 0 dX10_copyFrom_5 rfl rfl rfl ?_
  refine gg_10_0 (n := 9) (z := 27) X (by decide) (gsz hsz (by decide)) lay_26 kw_1_156 dX10_copyFrom_6 rfl (rf_26_0 I (gsz hsz (by decide))) (by decide) ?_
  refine g_iconst (n := 10) X dX10_copyFrom_9 rfl ?_
  refine g_bipush (n := 12) X dX10_copyFrom_10 (by decide +kernel) rfl ?_
  refine g_acopyI (n := 15) X kw_6_8 kw_3_209 kw_3_208 kw_1_16 (by decide) (by omega) lay_232 (by decide) (gsz hsz (by decide)) lay_27 (by omega) (by omega) (by omega) (by omega) (Nat.le_of_ble_eq_true rfl) (Nat.le_of_ble_eq_true rfl) dX10_copyFrom_12 rfl ?_
  refine G.nm (fun M1 e2 => ?_)
  have IM1 : gI sz M1 := gI.cpy I (by decide) (by omega) (fun k => ((ra_27 k).1.trans (ra_232 k).1.symm)) e2
  have CM1 : gC sz M1 := gC.cpy C (fun k => (ra_27 k).2.1) e2
  refine g_aload_n (n := 16) X 1 dX10_copyFrom_15 rfl rfl rfl ?_
  refine gg_10_1 (n := 19) (z := 233) X (by decide) (by omega) lay_231 kw_1_157 dX10_copyFrom_16 rfl (rf_231_1 IM1 (by omega)) (by decide) ?_
  refine g_iconst (n := 20) X dX10_copyFrom_19 rfl ?_
  refine g_aload_n (n := 21) X 0 dX10_copyFrom_20 rfl rfl rfl ?_
  refine gg_10_1 (n := 24) (z := 28) X (by decide) (gsz hsz (by decide)) lay_26 kw_1_157 dX10_copyFrom_21 rfl (rf_26_1 IM1 (gsz hsz (by decide))) (by decide) ?_
  refine g_iconst (n := 25) X dX10_copyFrom_24 rfl ?_
  refine g_bipush (n := 27) X dX10_copyFrom_25 (by decide +kernel) rfl ?_
  refine g_acopyI (n := 30) X kw_6_8 kw_3_209 kw_3_208 kw_1_16 (by decide) (by omega) lay_233 (by decide) (gsz hsz (by decide)) lay_28 (by omega) (by omega) (by omega) (by omega) (Nat.le_of_ble_eq_true rfl) (Nat.le_of_ble_eq_true rfl) dX10_copyFrom_27 rfl ?_
  refine G.nm (fun M3 e4 => ?_)
  have IM3 : gI sz M3 := gI.cpy IM1 (by decide) (by omega) (fun k => ((ra_28 k).1.trans (ra_233 k).1.symm)) e4
  have CM3 : gC sz M3 := gC.cpy CM1 (fun k => (ra_28 k).2.1) e4
  refine g_aload_n (n := 31) X 1 dX10_copyFrom_30 rfl rfl rfl ?_
  refine gg_10_2 (n := 34) (z := 234) X (by decide) (by omega) lay_231 kw_1_158 dX10_copyFrom_31 rfl (rf_231_2 IM3 (by omega)) (by decide) ?_
  refine g_iconst (n := 35) X dX10_copyFrom_34 rfl ?_
  refine g_aload_n (n := 36) X 0 dX10_copyFrom_35 rfl rfl rfl ?_
  refine gg_10_2 (n := 39) (z := 29) X (by decide) (gsz hsz (by decide)) lay_26 kw_1_158 dX10_copyFrom_36 rfl (rf_26_2 IM3 (gsz hsz (by decide))) (by decide) ?_
  refine g_iconst (n := 40) X dX10_copyFrom_39 rfl ?_
  refine g_bipush (n := 42) X dX10_copyFrom_40 (by decide +kernel) rfl ?_
  refine g_acopyI (n := 45) X kw_6_8 kw_3_209 kw_3_208 kw_1_16 (by decide) (by omega) lay_234 (by decide) (gsz hsz (by decide)) lay_29 (by omega) (by omega) (by omega) (by omega) (Nat.le_of_ble_eq_true rfl) (Nat.le_of_ble_eq_true rfl) dX10_copyFrom_42 rfl ?_
  refine G.nm (fun M5 e6 => ?_)
  have IM5 : gI sz M5 := gI.cpy IM3 (by decide) (by omega) (fun k => ((ra_29 k).1.trans (ra_234 k).1.symm)) e6
  have CM5 : gC sz M5 := gC.cpy CM3 (fun k => (ra_29 k).2.1) e6
  refine g_aload_n (n := 46) X 0 dX10_copyFrom_45 rfl rfl rfl ?_
  refine g_aload_n (n := 47) X 1 dX10_copyFrom_46 rfl rfl rfl ?_
  obtain ⟨v7, hv7, rv7⟩ := gRd IM5 (by decide) (by omega) rc_231_3.1
  refine gg_10_3 (n := 50) (z := v7) X (by decide) (by omega) lay_231 kw_1_159 dX10_copyFrom_47 rfl hv7 ?_
  refine gp_10_3 (n := 53) X (by decide) (gsz hsz (by decide)) lay_26 kw_1_159 dX10_copyFrom_50 rfl ?_
  refine G.nm (fun M8 e9 => ?_)
  have IM8 : gI sz M8 := gI.set IM5 rc_26_3.1 (by omega) e9
  have CM8 : gC sz M8 := gC.set CM5 rc_26_3.2.1 e9
  exact hq _ _ _ dX10_copyFrom_53 ⟨IM8, CM8, (gFr.s (gFr.y (gFr.y (gFr.y gFr.rf e2 (fun k => (ra_27 k).2.2) rfl) e4 (fun k => (ra_28 k).2.2) rfl) e6 (fun k => (ra_29 k).2.2) rfl) e9 rc_26_3.2.2 rfl), ⟨(fun b h0 h1 => ((congrFun (congrFun e9 _) _).trans ((gset_ne (by omega)).trans ((congrFun (congrFun e6 _) _).trans ((gcpy_ne (by omega)).trans ((congrFun (congrFun e4 _) _).trans ((gcpy_ne (by omega)).trans ((congrFun (congrFun e2 _) _).trans ((gcpy_in (by omega)).trans rfl))))))))), (fun b h0 h1 => ((congrFun (congrFun e9 _) _).trans ((gset_ne (by omega)).trans ((congrFun (congrFun e6 _) _).trans ((gcpy_ne (by omega)).trans ((congrFun (congrFun e4 _) _).trans ((gcpy_in (by omega)).trans ((congrFun (congrFun e2 _) _).trans ((gcpy_ne (by omega)).trans rfl))))))))), (fun b h0 h1 => ((congrFun (congrFun e9 _) _).trans ((gset_ne (by omega)).trans ((congrFun (congrFun e6 _) _).trans ((gcpy_in (by omega)).trans ((congrFun (congrFun e4 _) _).trans ((gcpy_ne (by omega)).trans ((congrFun (congrFun e2 _) _).trans ((gcpy_ne (by omega)).trans rfl))))))))), (((congrFun (congrFun e9 _) _).trans (gset_eq _ _ _ _)).trans ((hv7 : M5 231 3 = v7).symm.trans ((congrFun (congrFun e6 _) _).trans ((gcpy_ne (by omega)).trans ((congrFun (congrFun e4 _) _).trans ((gcpy_ne (by omega)).trans ((congrFun (congrFun e2 _) _).trans ((gcpy_ne (by omega)).trans rfl))))))))⟩⟩
theorem dX4_copyFrom_0 : decode cX4_copyFrom 0 = .ok (.aload_n 1, 1) := dc_43 (by decide +kernel)
theorem dX4_copyFrom_1 : decode cX4_copyFrom 1 = .ok (.getfield 9, 3) := dc_180 0 9 (by decide +kernel)
theorem dX4_copyFrom_4 : decode cX4_copyFrom 4 = .ok (.iconst 0, 1) := dc_3 (by decide +kernel)
theorem dX4_copyFrom_5 : decode cX4_copyFrom 5 = .ok (.aload_n 0, 1) := dc_42 (by decide +kernel)
theorem dX4_copyFrom_6 : decode cX4_copyFrom 6 = .ok (.getfield 9, 3) := dc_180 0 9 (by decide +kernel)
theorem rf_214_0 {sz : Nat} {M : gM} (I : gI sz M) (h : (214 : Int) < (sz : Int)) : M 214 0 = 215 + 1 := gI.rf I (by decide) h (by decide +kernel)
theorem dX4_copyFrom_9 : decode cX4_copyFrom 9 = .ok (.iconst 0, 1) := dc_3 (by decide +kernel)
theorem dX4_copyFrom_10 : decode cX4_copyFrom 10 = .ok (.bipush 20, 2) := dc_16 20 20 (by decide +kernel)
theorem dX4_copyFrom_12 : decode cX4_copyFrom 12 = .ok (.invokestatic 28, 3) := dc_184 0 28 (by decide +kernel)
theorem kw_5_237 : (Jvm.Cond.methodLink "ParishUnion$Orders" (28 : Nat) ({ cls := "java/lang/System", name := "arraycopy", desc := "(Ljava/lang/Object;ILjava/lang/Object;II)V" } : Jvm.MethodName)) ∈ gT := gT_of (tb_5 _ (List.mem_of_getElem? (i := 237) rfl)) rfl
theorem ra_215 (k : Int) : gRg 215 k = (0, 15) ∧ gCr 215 k = false ∧ gG 215 k = 79 := ⟨rfl, rfl, rfl⟩
theorem dX4_copyFrom_15 : decode cX4_copyFrom 15 = .ok (.aload_n 1, 1) := dc_43 (by decide +kernel)
theorem dX4_copyFrom_16 : decode cX4_copyFrom 16 = .ok (.getfield 15, 3) := dc_180 0 15 (by decide +kernel)
theorem dX4_copyFrom_19 : decode cX4_copyFrom 19 = .ok (.iconst 0, 1) := dc_3 (by decide +kernel)
theorem dX4_copyFrom_20 : decode cX4_copyFrom 20 = .ok (.aload_n 0, 1) := dc_42 (by decide +kernel)
theorem dX4_copyFrom_21 : decode cX4_copyFrom 21 = .ok (.getfield 15, 3) := dc_180 0 15 (by decide +kernel)
theorem rf_214_1 {sz : Nat} {M : gM} (I : gI sz M) (h : (214 : Int) < (sz : Int)) : M 214 1 = 216 + 1 := gI.rf I (by decide) h (by decide +kernel)
theorem dX4_copyFrom_24 : decode cX4_copyFrom 24 = .ok (.iconst 0, 1) := dc_3 (by decide +kernel)
theorem dX4_copyFrom_25 : decode cX4_copyFrom 25 = .ok (.bipush 20, 2) := dc_16 20 20 (by decide +kernel)
theorem dX4_copyFrom_27 : decode cX4_copyFrom 27 = .ok (.invokestatic 28, 3) := dc_184 0 28 (by decide +kernel)
theorem ra_216 (k : Int) : gRg 216 k = (0, 5) ∧ gCr 216 k = false ∧ gG 216 k = 79 := ⟨rfl, rfl, rfl⟩
theorem dX4_copyFrom_30 : decode cX4_copyFrom 30 = .ok (.aload_n 1, 1) := dc_43 (by decide +kernel)
theorem dX4_copyFrom_31 : decode cX4_copyFrom 31 = .ok (.getfield 18, 3) := dc_180 0 18 (by decide +kernel)
theorem dX4_copyFrom_34 : decode cX4_copyFrom 34 = .ok (.iconst 0, 1) := dc_3 (by decide +kernel)
theorem dX4_copyFrom_35 : decode cX4_copyFrom 35 = .ok (.aload_n 0, 1) := dc_42 (by decide +kernel)
theorem dX4_copyFrom_36 : decode cX4_copyFrom 36 = .ok (.getfield 18, 3) := dc_180 0 18 (by decide +kernel)
theorem rf_214_2 {sz : Nat} {M : gM} (I : gI sz M) (h : (214 : Int) < (sz : Int)) : M 214 2 = 217 + 1 := gI.rf I (by decide) h (by decide +kernel)
theorem dX4_copyFrom_39 : decode cX4_copyFrom 39 = .ok (.iconst 0, 1) := dc_3 (by decide +kernel)
theorem dX4_copyFrom_40 : decode cX4_copyFrom 40 = .ok (.bipush 20, 2) := dc_16 20 20 (by decide +kernel)
theorem dX4_copyFrom_42 : decode cX4_copyFrom 42 = .ok (.invokestatic 28, 3) := dc_184 0 28 (by decide +kernel)
theorem ra_217 (k : Int) : gRg 217 k = (0, 5) ∧ gCr 217 k = false ∧ gG 217 k = 79 := ⟨rfl, rfl, rfl⟩
theorem dX4_copyFrom_45 : decode cX4_copyFrom 45 = .ok (.aload_n 1, 1) := dc_43 (by decide +kernel)
theorem dX4_copyFrom_46 : decode cX4_copyFrom 46 = .ok (.getfield 21, 3) := dc_180 0 21 (by decide +kernel)
theorem dX4_copyFrom_49 : decode cX4_copyFrom 49 = .ok (.iconst 0, 1) := dc_3 (by decide +kernel)
theorem dX4_copyFrom_50 : decode cX4_copyFrom 50 = .ok (.aload_n 0, 1) := dc_42 (by decide +kernel)
theorem dX4_copyFrom_51 : decode cX4_copyFrom 51 = .ok (.getfield 21, 3) := dc_180 0 21 (by decide +kernel)
theorem rf_214_3 {sz : Nat} {M : gM} (I : gI sz M) (h : (214 : Int) < (sz : Int)) : M 214 3 = 218 + 1 := gI.rf I (by decide) h (by decide +kernel)
theorem dX4_copyFrom_54 : decode cX4_copyFrom 54 = .ok (.iconst 0, 1) := dc_3 (by decide +kernel)
theorem dX4_copyFrom_55 : decode cX4_copyFrom 55 = .ok (.bipush 20, 2) := dc_16 20 20 (by decide +kernel)
theorem dX4_copyFrom_57 : decode cX4_copyFrom 57 = .ok (.invokestatic 28, 3) := dc_184 0 28 (by decide +kernel)
theorem ra_218 (k : Int) : gRg 218 k = (0, 300) ∧ gCr 218 k = false ∧ gG 218 k = 79 := ⟨rfl, rfl, rfl⟩
theorem dX4_copyFrom_60 : decode cX4_copyFrom 60 = .ok (.iconst 0, 1) := dc_3 (by decide +kernel)
theorem dX4_copyFrom_61 : decode cX4_copyFrom 61 = .ok (.istore_n 2, 1) := dc_61 (by decide +kernel)
theorem dX4_copyFrom_62 : decode cX4_copyFrom 62 = .ok (.iload_n 2, 1) := dc_28 (by decide +kernel)
theorem dX4_copyFrom_63 : decode cX4_copyFrom 63 = .ok (.bipush 20, 2) := dc_16 20 20 (by decide +kernel)
theorem dX4_copyFrom_65 : decode cX4_copyFrom 65 = .ok (.if_icmp .ge 21, 3) := dc_162 0 21 21 (by decide +kernel)
theorem dX4_copyFrom_68 : decode cX4_copyFrom 68 = .ok (.aload_n 0, 1) := dc_42 (by decide +kernel)
theorem dX4_copyFrom_69 : decode cX4_copyFrom 69 = .ok (.getfield 24, 3) := dc_180 0 24 (by decide +kernel)
theorem rf_214_4 {sz : Nat} {M : gM} (I : gI sz M) (h : (214 : Int) < (sz : Int)) : M 214 4 = 219 + 1 := gI.rf I (by decide) h (by decide +kernel)
theorem dX4_copyFrom_72 : decode cX4_copyFrom 72 = .ok (.iload_n 2, 1) := dc_28 (by decide +kernel)
theorem dX4_copyFrom_73 : decode cX4_copyFrom 73 = .ok (.aload_n 1, 1) := dc_43 (by decide +kernel)
theorem dX4_copyFrom_74 : decode cX4_copyFrom 74 = .ok (.getfield 24, 3) := dc_180 0 24 (by decide +kernel)
theorem dX4_copyFrom_77 : decode cX4_copyFrom 77 = .ok (.iload_n 2, 1) := dc_28 (by decide +kernel)
theorem dX4_copyFrom_78 : decode cX4_copyFrom 78 = .ok (.baload, 1) := dc_51 (by decide +kernel)
theorem dX4_copyFrom_79 : decode cX4_copyFrom 79 = .ok (.bastore, 1) := dc_84 (by decide +kernel)
theorem ra_219 (k : Int) : gRg 219 k = (0, 1) ∧ gCr 219 k = false ∧ gG 219 k = 79 := ⟨rfl, rfl, rfl⟩
theorem dX4_copyFrom_80 : decode cX4_copyFrom 80 = .ok (.iinc 2 1, 3) := dc_132 2 1 1 (by decide +kernel)
theorem dX4_copyFrom_83 : decode cX4_copyFrom 83 = .ok (.goto (-21), 3) := dc_167 255 235 (-21) (by decide +kernel)
theorem dX4_copyFrom_86 : decode cX4_copyFrom 86 = .ok (.aload_n 0, 1) := dc_42 (by decide +kernel)
theorem dX4_copyFrom_87 : decode cX4_copyFrom 87 = .ok (.aload_n 1, 1) := dc_43 (by decide +kernel)
theorem dX4_copyFrom_88 : decode cX4_copyFrom 88 = .ok (.getfield 34, 3) := dc_180 0 34 (by decide +kernel)
theorem dX4_copyFrom_91 : decode cX4_copyFrom 91 = .ok (.putfield 34, 3) := dc_181 0 34 (by decide +kernel)
theorem rc_214_5 : gRg 214 5 = (0, 20) ∧ gCr 214 5 = false ∧ gG 214 5 = 79 := by decide +kernel
theorem dX4_copyFrom_94 : decode cX4_copyFrom 94 = .ok (.return_, 1) := dc_177 (by decide +kernel)
abbrev R_s_X4_copyFrom_214_9 : Room := { frames := 4, cells := 0, slots := 0, locals := 120 }
set_option maxRecDepth 100000 in
set_option maxHeartbeats 4000000 in
theorem s_X4_copyFrom_214_9 {l : Launch} {n0 : Nat} {D : va_G} {cA : Nat → ClassId} {M : gM}  {sz : Nat} (hsz : 206 ≤ sz) (I : gI sz M) (C : gC sz M) (hsz8 : sz = 358)  : Met l yX4_copyFrom (gWsOf yX4_copyFrom cX4_copyFrom 3 (Option.none : Option Jvm.ClassFile.FieldType)) R_s_X4_copyFrom_214_9 (gPc n0 D cA [gA n0 214, gA n0 9] M sz) (gQv n0 D cA sz (fun M1 => gI sz M1 ∧ gC sz M1 ∧ gFr 604462909807314587353088 M M1)) 0 0 (fun q => n0 ≤ q) := by
  refine gMetV [gA n0 214, gA n0 9] (by decide) (Nat.le_of_ble_eq_true rfl) ⟨rfl, rfl⟩ ?_
  intro p e s m args below meth cd Q X hq
  have X : gCx p s m args meth cd n0 D cA "ParishUnion$Orders" cX4_copyFrom 3 := X
  show G p l e R_s_X4_copyFrom_214_9 s m args below meth cd n0 D cA 3 Q 0 0 M sz 0 [(0, gA n0 214), (1, gA n0 9)] []
  refine g_aload_n (n := 1) X 1 dX4_copyFrom_0 rfl rfl rfl ?_
  refine gg_4_0 (n := 4) (z := 10) X (by decide) (gsz hsz (by decide)) lay_9 kw_1_62 dX4_copyFrom_1 rfl (rf_9_0 I (gsz hsz (by decide))) (by decide) ?_
  refine g_iconst (n := 5) X dX4_copyFrom_4 rfl ?_
  refine g_aload_n (n := 6) X 0 dX4_copyFrom_5 rfl rfl rfl ?_
  refine gg_4_0 (n := 9) (z := 215) X (by decide) (by omega) lay_214 kw_1_62 dX4_copyFrom_6 rfl (rf_214_0 I (by omega)) (by decide) ?_
  refine g_iconst (n := 10) X dX4_copyFrom_9 rfl ?_
  refine g_bipush (n := 12) X dX4_copyFrom_10 (by decide +kernel) rfl ?_
  refine g_acopyI (n := 15) X kw_5_237 kw_3_209 kw_3_208 kw_1_16 (by decide) (gsz hsz (by decide)) lay_10 (by decide) (by omega) lay_215 (by omega) (by omega) (by omega) (by omega) (Nat.le_of_ble_eq_true rfl) (Nat.le_of_ble_eq_true rfl) dX4_copyFrom_12 rfl ?_
  refine G.nm (fun M1 e2 => ?_)
  have IM1 : gI sz M1 := gI.cpy I (by decide) (gsz hsz (by decide)) (fun k => ((ra_215 k).1.trans (ra_10 k).1.symm)) e2
  have CM1 : gC sz M1 := gC.cpy C (fun k => (ra_215 k).2.1) e2
  refine g_aload_n (n := 16) X 1 dX4_copyFrom_15 rfl rfl rfl ?_
  refine gg_4_1 (n := 19) (z := 11) X (by decide) (gsz hsz (by decide)) lay_9 kw_1_64 dX4_copyFrom_16 rfl (rf_9_1 IM1 (gsz hsz (by decide))) (by decide) ?_
  refine g_iconst (n := 20) X dX4_copyFrom_19 rfl ?_
  refine g_aload_n (n := 21) X 0 dX4_copyFrom_20 rfl rfl rfl ?_
  refine gg_4_1 (n := 24) (z := 216) X (by decide) (by omega) lay_214 kw_1_64 dX4_copyFrom_21 rfl (rf_214_1 IM1 (by omega)) (by decide) ?_
  refine g_iconst (n := 25) X dX4_copyFrom_24 rfl ?_
  refine g_bipush (n := 27) X dX4_copyFrom_25 (by decide +kernel) rfl ?_
  refine g_acopyI (n := 30) X kw_5_237 kw_3_209 kw_3_208 kw_1_16 (by decide) (gsz hsz (by decide)) lay_11 (by decide) (by omega) lay_216 (by omega) (by omega) (by omega) (by omega) (Nat.le_of_ble_eq_true rfl) (Nat.le_of_ble_eq_true rfl) dX4_copyFrom_27 rfl ?_
  refine G.nm (fun M3 e4 => ?_)
  have IM3 : gI sz M3 := gI.cpy IM1 (by decide) (gsz hsz (by decide)) (fun k => ((ra_216 k).1.trans (ra_11 k).1.symm)) e4
  have CM3 : gC sz M3 := gC.cpy CM1 (fun k => (ra_216 k).2.1) e4
  refine g_aload_n (n := 31) X 1 dX4_copyFrom_30 rfl rfl rfl ?_
  refine gg_4_2 (n := 34) (z := 12) X (by decide) (gsz hsz (by decide)) lay_9 kw_1_66 dX4_copyFrom_31 rfl (rf_9_2 IM3 (gsz hsz (by decide))) (by decide) ?_
  refine g_iconst (n := 35) X dX4_copyFrom_34 rfl ?_
  refine g_aload_n (n := 36) X 0 dX4_copyFrom_35 rfl rfl rfl ?_
  refine gg_4_2 (n := 39) (z := 217) X (by decide) (by omega) lay_214 kw_1_66 dX4_copyFrom_36 rfl (rf_214_2 IM3 (by omega)) (by decide) ?_
  refine g_iconst (n := 40) X dX4_copyFrom_39 rfl ?_
  refine g_bipush (n := 42) X dX4_copyFrom_40 (by decide +kernel) rfl ?_
  refine g_acopyI (n := 45) X kw_5_237 kw_3_209 kw_3_208 kw_1_16 (by decide) (gsz hsz (by decide)) lay_12 (by decide) (by omega) lay_217 (by omega) (by omega) (by omega) (by omega) (Nat.le_of_ble_eq_true rfl) (Nat.le_of_ble_eq_true rfl) dX4_copyFrom_42 rfl ?_
  refine G.nm (fun M5 e6 => ?_)
  have IM5 : gI sz M5 := gI.cpy IM3 (by decide) (gsz hsz (by decide)) (fun k => ((ra_217 k).1.trans (ra_12 k).1.symm)) e6
  have CM5 : gC sz M5 := gC.cpy CM3 (fun k => (ra_217 k).2.1) e6
  refine g_aload_n (n := 46) X 1 dX4_copyFrom_45 rfl rfl rfl ?_
  refine gg_4_3 (n := 49) (z := 13) X (by decide) (gsz hsz (by decide)) lay_9 kw_1_68 dX4_copyFrom_46 rfl (rf_9_3 IM5 (gsz hsz (by decide))) (by decide) ?_
  refine g_iconst (n := 50) X dX4_copyFrom_49 rfl ?_
  refine g_aload_n (n := 51) X 0 dX4_copyFrom_50 rfl rfl rfl ?_
  refine gg_4_3 (n := 54) (z := 218) X (by decide) (by omega) lay_214 kw_1_68 dX4_copyFrom_51 rfl (rf_214_3 IM5 (by omega)) (by decide) ?_
  refine g_iconst (n := 55) X dX4_copyFrom_54 rfl ?_
  refine g_bipush (n := 57) X dX4_copyFrom_55 (by decide +kernel) rfl ?_
  refine g_acopyI (n := 60) X kw_5_237 kw_3_209 kw_3_208 kw_1_16 (by decide) (gsz hsz (by decide)) lay_13 (by decide) (by omega) lay_218 (by omega) (by omega) (by omega) (by omega) (Nat.le_of_ble_eq_true rfl) (Nat.le_of_ble_eq_true rfl) dX4_copyFrom_57 rfl ?_
  refine G.nm (fun M7 e8 => ?_)
  have IM7 : gI sz M7 := gI.cpy IM5 (by decide) (gsz hsz (by decide)) (fun k => ((ra_218 k).1.trans (ra_13 k).1.symm)) e8
  have CM7 : gC sz M7 := gC.cpy CM5 (fun k => (ra_218 k).2.1) e8
  refine g_iconst (n := 61) X dX4_copyFrom_60 rfl ?_
  refine g_istore_n (n := 62) (L' := [(2, gJ 0), (0, gA n0 214), (1, gA n0 9)]) X dX4_copyFrom_61 rfl (by decide) rfl rfl ?_
  have j11 : ∀ (N43 : Nat) (v9 : Int) (M10 : gM) , (0 ≤ v9 ∧ v9 ≤ 20) → gI sz M10 → gC sz M10 → gFr 604462909807314587353088 M7 M10 → (20 - v9).toNat < N43 → G p l e R_s_X4_copyFrom_214_9 s m args below meth cd n0 D cA 3 Q 0 0 M10 sz 62 [(0, gA n0 214), (1, gA n0 9), (2, gJ v9)] [] := by
    intro N43; induction N43 with
    | zero => intro v9 M10 rv9 IM10 CM10 FM10 hm45; exfalso; omega
    | succ N43 ih44 =>
      intro v9 M10 rv9 IM10 CM10 FM10 hm45
      refine g_iload_n (n := 63) X 2 dX4_copyFrom_62 rfl rfl rfl ?_
      refine g_bipush (n := 65) X dX4_copyFrom_63 (by decide +kernel) rfl ?_
      refine g_icmp_ge (n := 68) (tgt := 86) X dX4_copyFrom_65 (by decide) (by omega) (by omega) rfl (fun c46 => ?_) (fun c46 => ?_)
      · refine g_aload_n (n := 87) X 0 dX4_copyFrom_86 rfl rfl rfl ?_
        refine g_aload_n (n := 88) X 1 dX4_copyFrom_87 rfl rfl rfl ?_
        obtain ⟨v47, hv47, rv47⟩ := gRd IM10 (by decide) (gsz hsz (by decide)) rc_9_5.1
        refine gg_4_5 (n := 91) (z := v47) X (by decide) (gsz hsz (by decide)) lay_9 kw_1_72 dX4_copyFrom_88 rfl hv47 ?_
        refine gp_4_5 (n := 94) X (by decide) (by omega) lay_214 kw_1_72 dX4_copyFrom_91 rfl ?_
        refine G.nm (fun M48 e49 => ?_)
        have IM48 : gI sz M48 := gI.set IM10 rc_214_5.1 (by omega) e49
        have CM48 : gC sz M48 := gC.set CM10 rc_214_5.2.1 e49
        exact hq _ _ _ dX4_copyFrom_94 ⟨IM48, CM48, (gFr.s (gFr.c (gFr.y (gFr.y (gFr.y (gFr.y gFr.rf e2 (fun k => (ra_215 k).2.2) rfl) e4 (fun k => (ra_216 k).2.2) rfl) e6 (fun k => (ra_217 k).2.2) rfl) e8 (fun k => (ra_218 k).2.2) rfl) FM10 rfl) e49 rc_214_5.2.2 rfl)⟩
      · refine g_aload_n (n := 69) X 0 dX4_copyFrom_68 rfl rfl rfl ?_
        refine gg_4_4 (n := 72) (z := 219) X (by decide) (by omega) lay_214 kw_1_70 dX4_copyFrom_69 rfl (rf_214_4 IM10 (by omega)) (by decide) ?_
        refine g_iload_n (n := 73) X 2 dX4_copyFrom_72 rfl rfl rfl ?_
        refine g_aload_n (n := 74) X 1 dX4_copyFrom_73 rfl rfl rfl ?_
        refine gg_4_4 (n := 77) (z := 14) X (by decide) (gsz hsz (by decide)) lay_9 kw_1_70 dX4_copyFrom_74 rfl (rf_9_4 IM10 (gsz hsz (by decide))) (by decide) ?_
        refine g_iload_n (n := 78) X 2 dX4_copyFrom_77 rfl rfl rfl ?_
        obtain ⟨v50, hv50, rv50⟩ := gRd IM10 (by decide) (gsz hsz (by decide)) (ra_14 v9).1
        refine g_zald2 (n := 79) (v := v50) X (by decide) (gsz hsz (by decide)) lay_14 (by omega) (by omega) (by decide) dX4_copyFrom_78 rfl hv50 ?_
        refine g_zast (n := 80) (z := v50) X (by decide) (by omega) lay_219 (by omega) (by omega) (by decide) (g_zn (by omega)) dX4_copyFrom_79 rfl ?_
        refine G.nm (fun M51 e52 => ?_)
        have IM51 : gI sz M51 := gI.set IM10 (ra_219 v9).1 (by omega) e52
        have CM51 : gC sz M51 := gC.set CM10 (ra_219 v9).2.1 e52
        refine g_iinc (n := 83) (w := v9 + 1) (L' := [(2, gJ (v9 + 1)), (0, gA n0 214), (1, gA n0 9)]) X 2 dX4_copyFrom_80 rfl rfl (by decide) rfl rfl ?_
        refine g_goto (tgt := 62) X dX4_copyFrom_83 (by decide) ?_
        refine G.sub (L' := [(0, gA n0 214), (1, gA n0 9), (2, gJ (v9 + 1))]) [1, 2, 0] rfl ?_
        exact ih44 (v9 + 1) M51 (by omega) IM51 CM51 (gFr.s (gFr.c gFr.rf FM10 rfl) e52 (ra_219 v9).2.2 rfl) (by omega)
  refine G.sub (L' := [(0, gA n0 214), (1, gA n0 9), (2, gJ 0)]) [1, 2, 0] rfl ?_
  exact j11 _ 0 M7 (by omega) IM7 CM7 gFr.rf (Nat.lt_succ_self _)
abbrev R_s_X4_copyFrom_9_214 : Room := { frames := 4, cells := 0, slots := 0, locals := 120 }
set_option maxRecDepth 100000 in
set_option maxHeartbeats 4000000 in
theorem s_X4_copyFrom_9_214 {l : Launch} {n0 : Nat} {D : va_G} {cA : Nat → ClassId} {M : gM}  {sz : Nat} (hsz : 206 ≤ sz) (I : gI sz M) (C : gC sz M) (hsz8 : sz = 358)  : Met l yX4_copyFrom (gWsOf yX4_copyFrom cX4_copyFrom 3 (Option.none : Option Jvm.ClassFile.FieldType)) R_s_X4_copyFrom_9_214 (gPc n0 D cA [gA n0 9, gA n0 214] M sz) (gQv n0 D cA sz (fun M1 => gI sz M1 ∧ gC sz M1 ∧ gFr 1024 M M1)) 0 0 (fun q => n0 ≤ q) := by
  refine gMetV [gA n0 9, gA n0 214] (by decide) (Nat.le_of_ble_eq_true rfl) ⟨rfl, rfl⟩ ?_
  intro p e s m args below meth cd Q X hq
  have X : gCx p s m args meth cd n0 D cA "ParishUnion$Orders" cX4_copyFrom 3 := X
  show G p l e R_s_X4_copyFrom_9_214 s m args below meth cd n0 D cA 3 Q 0 0 M sz 0 [(0, gA n0 9), (1, gA n0 214)] []
  refine g_aload_n (n := 1) X 1 dX4_copyFrom_0 rfl rfl rfl ?_
  refine gg_4_0 (n := 4) (z := 215) X (by decide) (by omega) lay_214 kw_1_62 dX4_copyFrom_1 rfl (rf_214_0 I (by omega)) (by decide) ?_
  refine g_iconst (n := 5) X dX4_copyFrom_4 rfl ?_
  refine g_aload_n (n := 6) X 0 dX4_copyFrom_5 rfl rfl rfl ?_
  refine gg_4_0 (n := 9) (z := 10) X (by decide) (gsz hsz (by decide)) lay_9 kw_1_62 dX4_copyFrom_6 rfl (rf_9_0 I (gsz hsz (by decide))) (by decide) ?_
  refine g_iconst (n := 10) X dX4_copyFrom_9 rfl ?_
  refine g_bipush (n := 12) X dX4_copyFrom_10 (by decide +kernel) rfl ?_
  refine g_acopyI (n := 15) X kw_5_237 kw_3_209 kw_3_208 kw_1_16 (by decide) (by omega) lay_215 (by decide) (gsz hsz (by decide)) lay_10 (by omega) (by omega) (by omega) (by omega) (Nat.le_of_ble_eq_true rfl) (Nat.le_of_ble_eq_true rfl) dX4_copyFrom_12 rfl ?_
  refine G.nm (fun M1 e2 => ?_)
  have IM1 : gI sz M1 := gI.cpy I (by decide) (by omega) (fun k => ((ra_10 k).1.trans (ra_215 k).1.symm)) e2
  have CM1 : gC sz M1 := gC.cpy C (fun k => (ra_10 k).2.1) e2
  refine g_aload_n (n := 16) X 1 dX4_copyFrom_15 rfl rfl rfl ?_
  refine gg_4_1 (n := 19) (z := 216) X (by decide) (by omega) lay_214 kw_1_64 dX4_copyFrom_16 rfl (rf_214_1 IM1 (by omega)) (by decide) ?_
  refine g_iconst (n := 20) X dX4_copyFrom_19 rfl ?_
  refine g_aload_n (n := 21) X 0 dX4_copyFrom_20 rfl rfl rfl ?_
  refine gg_4_1 (n := 24) (z := 11) X (by decide) (gsz hsz (by decide)) lay_9 kw_1_64 dX4_copyFrom_21 rfl (rf_9_1 IM1 (gsz hsz (by decide))) (by decide) ?_
  refine g_iconst (n := 25) X dX4_copyFrom_24 rfl ?_
  refine g_bipush (n := 27) X dX4_copyFrom_25 (by decide +kernel) rfl ?_
  refine g_acopyI (n := 30) X kw_5_237 kw_3_209 kw_3_208 kw_1_16 (by decide) (by omega) lay_216 (by decide) (gsz hsz (by decide)) lay_11 (by omega) (by omega) (by omega) (by omega) (Nat.le_of_ble_eq_true rfl) (Nat.le_of_ble_eq_true rfl) dX4_copyFrom_27 rfl ?_
  refine G.nm (fun M3 e4 => ?_)
  have IM3 : gI sz M3 := gI.cpy IM1 (by decide) (by omega) (fun k => ((ra_11 k).1.trans (ra_216 k).1.symm)) e4
  have CM3 : gC sz M3 := gC.cpy CM1 (fun k => (ra_11 k).2.1) e4
  refine g_aload_n (n := 31) X 1 dX4_copyFrom_30 rfl rfl rfl ?_
  refine gg_4_2 (n := 34) (z := 217) X (by decide) (by omega) lay_214 kw_1_66 dX4_copyFrom_31 rfl (rf_214_2 IM3 (by omega)) (by decide) ?_
  refine g_iconst (n := 35) X dX4_copyFrom_34 rfl ?_
  refine g_aload_n (n := 36) X 0 dX4_copyFrom_35 rfl rfl rfl ?_
  refine gg_4_2 (n := 39) (z := 12) X (by decide) (gsz hsz (by decide)) lay_9 kw_1_66 dX4_copyFrom_36 rfl (rf_9_2 IM3 (gsz hsz (by decide))) (by decide) ?_
  refine g_iconst (n := 40) X dX4_copyFrom_39 rfl ?_
  refine g_bipush (n := 42) X dX4_copyFrom_40 (by decide +kernel) rfl ?_
  refine g_acopyI (n := 45) X kw_5_237 kw_3_209 kw_3_208 kw_1_16 (by decide) (by omega) lay_217 (by decide) (gsz hsz (by decide)) lay_12 (by omega) (by omega) (by omega) (by omega) (Nat.le_of_ble_eq_true rfl) (Nat.le_of_ble_eq_true rfl) dX4_copyFrom_42 rfl ?_
  refine G.nm (fun M5 e6 => ?_)
  have IM5 : gI sz M5 := gI.cpy IM3 (by decide) (by omega) (fun k => ((ra_12 k).1.trans (ra_217 k).1.symm)) e6
  have CM5 : gC sz M5 := gC.cpy CM3 (fun k => (ra_12 k).2.1) e6
  refine g_aload_n (n := 46) X 1 dX4_copyFrom_45 rfl rfl rfl ?_
  refine gg_4_3 (n := 49) (z := 218) X (by decide) (by omega) lay_214 kw_1_68 dX4_copyFrom_46 rfl (rf_214_3 IM5 (by omega)) (by decide) ?_
  refine g_iconst (n := 50) X dX4_copyFrom_49 rfl ?_
  refine g_aload_n (n := 51) X 0 dX4_copyFrom_50 rfl rfl rfl ?_
  refine gg_4_3 (n := 54) (z := 13) X (by decide) (gsz hsz (by decide)) lay_9 kw_1_68 dX4_copyFrom_51 rfl (rf_9_3 IM5 (gsz hsz (by decide))) (by decide) ?_
  refine g_iconst (n := 55) X dX4_copyFrom_54 rfl ?_
  refine g_bipush (n := 57) X dX4_copyFrom_55 (by decide +kernel) rfl ?_
  refine g_acopyI (n := 60) X kw_5_237 kw_3_209 kw_3_208 kw_1_16 (by decide) (by omega) lay_218 (by decide) (gsz hsz (by decide)) lay_13 (by omega) (by omega) (by omega) (by omega) (Nat.le_of_ble_eq_true rfl) (Nat.le_of_ble_eq_true rfl) dX4_copyFrom_57 rfl ?_
  refine G.nm (fun M7 e8 => ?_)
  have IM7 : gI sz M7 := gI.cpy IM5 (by decide) (by omega) (fun k => ((ra_13 k).1.trans (ra_218 k).1.symm)) e8
  have CM7 : gC sz M7 := gC.cpy CM5 (fun k => (ra_13 k).2.1) e8
  refine g_iconst (n := 61) X dX4_copyFrom_60 rfl ?_
  refine g_istore_n (n := 62) (L' := [(2, gJ 0), (0, gA n0 9), (1, gA n0 214)]) X dX4_copyFrom_61 rfl (by decide) rfl rfl ?_
  have j11 : ∀ (N43 : Nat) (v9 : Int) (M10 : gM) , (0 ≤ v9 ∧ v9 ≤ 20) → gI sz M10 → gC sz M10 → gFr 1024 M7 M10 → (20 - v9).toNat < N43 → G p l e R_s_X4_copyFrom_9_214 s m args below meth cd n0 D cA 3 Q 0 0 M10 sz 62 [(0, gA n0 9), (1, gA n0 214), (2, gJ v9)] [] := by
    intro N43; induction N43 with
    | zero => intro v9 M10 rv9 IM10 CM10 FM10 hm45; exfalso; omega
    | succ N43 ih44 =>
      intro v9 M10 rv9 IM10 CM10 FM10 hm45
      refine g_iload_n (n := 63) X 2 dX4_copyFrom_62 rfl rfl rfl ?_
      refine g_bipush (n := 65) X dX4_copyFrom_63 (by decide +kernel) rfl ?_
      refine g_icmp_ge (n := 68) (tgt := 86) X dX4_copyFrom_65 (by decide) (by omega) (by omega) rfl (fun c46 => ?_) (fun c46 => ?_)
      · refine g_aload_n (n := 87) X 0 dX4_copyFrom_86 rfl rfl rfl ?_
        refine g_aload_n (n := 88) X 1 dX4_copyFrom_87 rfl rfl rfl ?_
        obtain ⟨v47, hv47, rv47⟩ := gRd IM10 (by decide) (by omega) rc_214_5.1
        refine gg_4_5 (n := 91) (z := v47) X (by decide) (by omega) lay_214 kw_1_72 dX4_copyFrom_88 rfl hv47 ?_
        refine gp_4_5 (n := 94) X (by decide) (gsz hsz (by decide)) lay_9 kw_1_72 dX4_copyFrom_91 rfl ?_
        refine G.nm (fun M48 e49 => ?_)
        have IM48 : gI sz M48 := gI.set IM10 rc_9_5.1 (by omega) e49
        have CM48 : gC sz M48 := gC.set CM10 rc_9_5.2.1 e49
        exact hq _ _ _ dX4_copyFrom_94 ⟨IM48, CM48, (gFr.s (gFr.c (gFr.y (gFr.y (gFr.y (gFr.y gFr.rf e2 (fun k => (ra_10 k).2.2) rfl) e4 (fun k => (ra_11 k).2.2) rfl) e6 (fun k => (ra_12 k).2.2) rfl) e8 (fun k => (ra_13 k).2.2) rfl) FM10 rfl) e49 rc_9_5.2.2 rfl)⟩
      · refine g_aload_n (n := 69) X 0 dX4_copyFrom_68 rfl rfl rfl ?_
        refine gg_4_4 (n := 72) (z := 14) X (by decide) (gsz hsz (by decide)) lay_9 kw_1_70 dX4_copyFrom_69 rfl (rf_9_4 IM10 (gsz hsz (by decide))) (by decide) ?_
        refine g_iload_n (n := 73) X 2 dX4_copyFrom_72 rfl rfl rfl ?_
        refine g_aload_n (n := 74) X 1 dX4_copyFrom_73 rfl rfl rfl ?_
        refine gg_4_4 (n := 77) (z := 219) X (by decide) (by omega) lay_214 kw_1_70 dX4_copyFrom_74 rfl (rf_214_4 IM10 (by omega)) (by decide) ?_
        refine g_iload_n (n := 78) X 2 dX4_copyFrom_77 rfl rfl rfl ?_
        obtain ⟨v50, hv50, rv50⟩ := gRd IM10 (by decide) (by omega) (ra_219 v9).1
        refine g_zald2 (n := 79) (v := v50) X (by decide) (by omega) lay_219 (by omega) (by omega) (by decide) dX4_copyFrom_78 rfl hv50 ?_
        refine g_zast (n := 80) (z := v50) X (by decide) (gsz hsz (by decide)) lay_14 (by omega) (by omega) (by decide) (g_zn (by omega)) dX4_copyFrom_79 rfl ?_
        refine G.nm (fun M51 e52 => ?_)
        have IM51 : gI sz M51 := gI.set IM10 (ra_14 v9).1 (by omega) e52
        have CM51 : gC sz M51 := gC.set CM10 (ra_14 v9).2.1 e52
        refine g_iinc (n := 83) (w := v9 + 1) (L' := [(2, gJ (v9 + 1)), (0, gA n0 9), (1, gA n0 214)]) X 2 dX4_copyFrom_80 rfl rfl (by decide) rfl rfl ?_
        refine g_goto (tgt := 62) X dX4_copyFrom_83 (by decide) ?_
        refine G.sub (L' := [(0, gA n0 9), (1, gA n0 214), (2, gJ (v9 + 1))]) [1, 2, 0] rfl ?_
        exact ih44 (v9 + 1) M51 (by omega) IM51 CM51 (gFr.s (gFr.c gFr.rf FM10 rfl) e52 (ra_14 v9).2.2 rfl) (by omega)
  refine G.sub (L' := [(0, gA n0 9), (1, gA n0 214), (2, gJ 0)]) [1, 2, 0] rfl ?_
  exact j11 _ 0 M7 (by omega) IM7 CM7 gFr.rf (Nat.lt_succ_self _)
theorem dX5_copyFrom_0 : decode cX5_copyFrom 0 = .ok (.aload_n 1, 1) := dc_43 (by decide +kernel)
theorem dX5_copyFrom_1 : decode cX5_copyFrom 1 = .ok (.getfield 9, 3) := dc_180 0 9 (by decide +kernel)
theorem dX5_copyFrom_4 : decode cX5_copyFrom 4 = .ok (.iconst 0, 1) := dc_3 (by decide +kernel)
theorem dX5_copyFrom_5 : decode cX5_copyFrom 5 = .ok (.aload_n 0, 1) := dc_42 (by decide +kernel)
theorem dX5_copyFrom_6 : decode cX5_copyFrom 6 = .ok (.getfield 9, 3) := dc_180 0 9 (by decide +kernel)
theorem rf_228_0 {sz : Nat} {M : gM} (I : gI sz M) (h : (228 : Int) < (sz : Int)) : M 228 0 = 229 + 1 := gI.rf I (by decide) h (by decide +kernel)
theorem dX5_copyFrom_9 : decode cX5_copyFrom 9 = .ok (.iconst 0, 1) := dc_3 (by decide +kernel)
theorem dX5_copyFrom_10 : decode cX5_copyFrom 10 = .ok (.iload_n 2, 1) := dc_28 (by decide +kernel)
theorem dX5_copyFrom_11 : decode cX5_copyFrom 11 = .ok (.bipush 7, 2) := dc_16 7 7 (by decide +kernel)
theorem dX5_copyFrom_13 : decode cX5_copyFrom 13 = .ok (.imul, 1) := dc_104 (by decide +kernel)
theorem dX5_copyFrom_14 : decode cX5_copyFrom 14 = .ok (.invokestatic 19, 3) := dc_184 0 19 (by decide +kernel)
theorem kw_6_3 : (Jvm.Cond.methodLink "ParishUnion$Past" (19 : Nat) ({ cls := "java/lang/System", name := "arraycopy", desc := "(Ljava/lang/Object;ILjava/lang/Object;II)V" } : Jvm.MethodName)) ∈ gT := gT_of (tb_6 _ (List.mem_of_getElem? (i := 3) rfl)) rfl
theorem ra_229 (k : Int) : gRg 229 k = (-2147483648, 2147483647) ∧ gCr 229 k = false ∧ gG 229 k = 81 := ⟨rfl, rfl, rfl⟩
theorem dX5_copyFrom_17 : decode cX5_copyFrom 17 = .ok (.aload_n 1, 1) := dc_43 (by decide +kernel)
theorem dX5_copyFrom_18 : decode cX5_copyFrom 18 = .ok (.getfield 15, 3) := dc_180 0 15 (by decide +kernel)
theorem dX5_copyFrom_21 : decode cX5_copyFrom 21 = .ok (.iconst 0, 1) := dc_3 (by decide +kernel)
theorem dX5_copyFrom_22 : decode cX5_copyFrom 22 = .ok (.aload_n 0, 1) := dc_42 (by decide +kernel)
theorem dX5_copyFrom_23 : decode cX5_copyFrom 23 = .ok (.getfield 15, 3) := dc_180 0 15 (by decide +kernel)
theorem rf_228_1 {sz : Nat} {M : gM} (I : gI sz M) (h : (228 : Int) < (sz : Int)) : M 228 1 = 230 + 1 := gI.rf I (by decide) h (by decide +kernel)
theorem dX5_copyFrom_26 : decode cX5_copyFrom 26 = .ok (.iconst 0, 1) := dc_3 (by decide +kernel)
theorem dX5_copyFrom_27 : decode cX5_copyFrom 27 = .ok (.iload_n 2, 1) := dc_28 (by decide +kernel)
theorem dX5_copyFrom_28 : decode cX5_copyFrom 28 = .ok (.bipush 16, 2) := dc_16 16 16 (by decide +kernel)
theorem dX5_copyFrom_30 : decode cX5_copyFrom 30 = .ok (.imul, 1) := dc_104 (by decide +kernel)
theorem dX5_copyFrom_31 : decode cX5_copyFrom 31 = .ok (.invokestatic 19, 3) := dc_184 0 19 (by decide +kernel)
theorem ra_230 (k : Int) : gRg 230 k = (-9223372036854775808, 9223372036854775807) ∧ gCr 230 k = false ∧ gG 230 k = 81 := ⟨rfl, rfl, rfl⟩
theorem dX5_copyFrom_34 : decode cX5_copyFrom 34 = .ok (.return_, 1) := dc_177 (by decide +kernel)
abbrev R_s_X5_copyFrom_228_23 : Room := { frames := 4, cells := 0, slots := 0, locals := 120 }
set_option maxRecDepth 100000 in
set_option maxHeartbeats 4000000 in
theorem s_X5_copyFrom_228_23 {l : Launch} {n0 : Nat} {D : va_G} {cA : Nat → ClassId} {M : gM} (a : Int) (r_a : 0 ≤ a ∧ a ≤ 300) {sz : Nat} (hsz : 206 ≤ sz) (I : gI sz M) (C : gC sz M) (hsz8 : sz = 358)  : Met l yX5_copyFrom (gWsOf yX5_copyFrom cX5_copyFrom 3 (Option.none : Option Jvm.ClassFile.FieldType)) R_s_X5_copyFrom_228_23 (gPc n0 D cA [gA n0 228, gA n0 23, gJ a] M sz) (gQv n0 D cA sz (fun M1 => gI sz M1 ∧ gC sz M1 ∧ gFr 2417851639229258349412352 M M1)) 0 0 (fun q => n0 ≤ q) := by
  refine gMetV [gA n0 228, gA n0 23, gJ a] (by decide) (Nat.le_of_ble_eq_true rfl) ⟨rfl, rfl⟩ ?_
  intro p e s m args below meth cd Q X hq
  have X : gCx p s m args meth cd n0 D cA "ParishUnion$Past" cX5_copyFrom 3 := X
  show G p l e R_s_X5_copyFrom_228_23 s m args below meth cd n0 D cA 3 Q 0 0 M sz 0 [(0, gA n0 228), (1, gA n0 23), (2, gJ a)] []
  refine g_aload_n (n := 1) X 1 dX5_copyFrom_0 rfl rfl rfl ?_
  refine gg_5_0 (n := 4) (z := 24) X (by decide) (gsz hsz (by decide)) lay_23 kw_1_142 dX5_copyFrom_1 rfl (rf_23_0 I (gsz hsz (by decide))) (by decide) ?_
  refine g_iconst (n := 5) X dX5_copyFrom_4 rfl ?_
  refine g_aload_n (n := 6) X 0 dX5_copyFrom_5 rfl rfl rfl ?_
  refine gg_5_0 (n := 9) (z := 229) X (by decide) (by omega) lay_228 kw_1_142 dX5_copyFrom_6 rfl (rf_228_0 I (by omega)) (by decide) ?_
  refine g_iconst (n := 10) X dX5_copyFrom_9 rfl ?_
  refine g_iload_n (n := 11) X 2 dX5_copyFrom_10 rfl rfl rfl ?_
  refine g_bipush (n := 13) X dX5_copyFrom_11 (by decide +kernel) rfl ?_
  refine g_imul (n := 14) (z := a * 7) X dX5_copyFrom_13 rfl rfl ?_
  refine g_acopyI (n := 17) X kw_6_3 kw_3_209 kw_3_208 kw_1_16 (by decide) (gsz hsz (by decide)) lay_24 (by decide) (by omega) lay_229 (by omega) (by omega) (by omega) (by omega) (Nat.le_of_ble_eq_true rfl) (Nat.le_of_ble_eq_true rfl) dX5_copyFrom_14 rfl ?_
  refine G.nm (fun M1 e2 => ?_)
  have IM1 : gI sz M1 := gI.cpy I (by decide) (gsz hsz (by decide)) (fun k => ((ra_229 k).1.trans (ra_24 k).1.symm)) e2
  have CM1 : gC sz M1 := gC.cpy C (fun k => (ra_229 k).2.1) e2
  refine g_aload_n (n := 18) X 1 dX5_copyFrom_17 rfl rfl rfl ?_
  refine gg_5_1 (n := 21) (z := 25) X (by decide) (gsz hsz (by decide)) lay_23 kw_1_143 dX5_copyFrom_18 rfl (rf_23_1 IM1 (gsz hsz (by decide))) (by decide) ?_
  refine g_iconst (n := 22) X dX5_copyFrom_21 rfl ?_
  refine g_aload_n (n := 23) X 0 dX5_copyFrom_22 rfl rfl rfl ?_
  refine gg_5_1 (n := 26) (z := 230) X (by decide) (by omega) lay_228 kw_1_143 dX5_copyFrom_23 rfl (rf_228_1 IM1 (by omega)) (by decide) ?_
  refine g_iconst (n := 27) X dX5_copyFrom_26 rfl ?_
  refine g_iload_n (n := 28) X 2 dX5_copyFrom_27 rfl rfl rfl ?_
  refine g_bipush (n := 30) X dX5_copyFrom_28 (by decide +kernel) rfl ?_
  refine g_imul (n := 31) (z := a * 16) X dX5_copyFrom_30 rfl rfl ?_
  refine g_acopyL (n := 34) X kw_6_3 kw_3_209 kw_3_208 kw_1_16 (by decide) (gsz hsz (by decide)) lay_25 (by decide) (by omega) lay_230 (by omega) (by omega) (by omega) (by omega) (Nat.le_of_ble_eq_true rfl) (Nat.le_of_ble_eq_true rfl) dX5_copyFrom_31 rfl ?_
  refine G.nm (fun M3 e4 => ?_)
  have IM3 : gI sz M3 := gI.cpy IM1 (by decide) (gsz hsz (by decide)) (fun k => ((ra_230 k).1.trans (ra_25 k).1.symm)) e4
  have CM3 : gC sz M3 := gC.cpy CM1 (fun k => (ra_230 k).2.1) e4
  exact hq _ _ _ dX5_copyFrom_34 ⟨IM3, CM3, (gFr.y (gFr.y gFr.rf e2 (fun k => (ra_229 k).2.2) rfl) e4 (fun k => (ra_230 k).2.2) rfl)⟩
abbrev R_s_X5_copyFrom_23_228 : Room := { frames := 4, cells := 0, slots := 0, locals := 120 }
set_option maxRecDepth 100000 in
set_option maxHeartbeats 4000000 in
theorem s_X5_copyFrom_23_228 {l : Launch} {n0 : Nat} {D : va_G} {cA : Nat → ClassId} {M : gM} (a : Int) (r_a : 0 ≤ a ∧ a ≤ 300) {sz : Nat} (hsz : 206 ≤ sz) (I : gI sz M) (C : gC sz M) (hsz8 : sz = 358)  : Met l yX5_copyFrom (gWsOf yX5_copyFrom cX5_copyFrom 3 (Option.none : Option Jvm.ClassFile.FieldType)) R_s_X5_copyFrom_23_228 (gPc n0 D cA [gA n0 23, gA n0 228, gJ a] M sz) (gQv n0 D cA sz (fun M1 => gI sz M1 ∧ gC sz M1 ∧ gFr 65536 M M1)) 0 0 (fun q => n0 ≤ q) := by
  refine gMetV [gA n0 23, gA n0 228, gJ a] (by decide) (Nat.le_of_ble_eq_true rfl) ⟨rfl, rfl⟩ ?_
  intro p e s m args below meth cd Q X hq
  have X : gCx p s m args meth cd n0 D cA "ParishUnion$Past" cX5_copyFrom 3 := X
  show G p l e R_s_X5_copyFrom_23_228 s m args below meth cd n0 D cA 3 Q 0 0 M sz 0 [(0, gA n0 23), (1, gA n0 228), (2, gJ a)] []
  refine g_aload_n (n := 1) X 1 dX5_copyFrom_0 rfl rfl rfl ?_
  refine gg_5_0 (n := 4) (z := 229) X (by decide) (by omega) lay_228 kw_1_142 dX5_copyFrom_1 rfl (rf_228_0 I (by omega)) (by decide) ?_
  refine g_iconst (n := 5) X dX5_copyFrom_4 rfl ?_
  refine g_aload_n (n := 6) X 0 dX5_copyFrom_5 rfl rfl rfl ?_
  refine gg_5_0 (n := 9) (z := 24) X (by decide) (gsz hsz (by decide)) lay_23 kw_1_142 dX5_copyFrom_6 rfl (rf_23_0 I (gsz hsz (by decide))) (by decide) ?_
  refine g_iconst (n := 10) X dX5_copyFrom_9 rfl ?_
  refine g_iload_n (n := 11) X 2 dX5_copyFrom_10 rfl rfl rfl ?_
  refine g_bipush (n := 13) X dX5_copyFrom_11 (by decide +kernel) rfl ?_
  refine g_imul (n := 14) (z := a * 7) X dX5_copyFrom_13 rfl rfl ?_
  refine g_acopyI (n := 17) X kw_6_3 kw_3_209 kw_3_208 kw_1_16 (by decide) (by omega) lay_229 (by decide) (gsz hsz (by decide)) lay_24 (by omega) (by omega) (by omega) (by omega) (Nat.le_of_ble_eq_true rfl) (Nat.le_of_ble_eq_true rfl) dX5_copyFrom_14 rfl ?_
  refine G.nm (fun M1 e2 => ?_)
  have IM1 : gI sz M1 := gI.cpy I (by decide) (by omega) (fun k => ((ra_24 k).1.trans (ra_229 k).1.symm)) e2
  have CM1 : gC sz M1 := gC.cpy C (fun k => (ra_24 k).2.1) e2
  refine g_aload_n (n := 18) X 1 dX5_copyFrom_17 rfl rfl rfl ?_
  refine gg_5_1 (n := 21) (z := 230) X (by decide) (by omega) lay_228 kw_1_143 dX5_copyFrom_18 rfl (rf_228_1 IM1 (by omega)) (by decide) ?_
  refine g_iconst (n := 22) X dX5_copyFrom_21 rfl ?_
  refine g_aload_n (n := 23) X 0 dX5_copyFrom_22 rfl rfl rfl ?_
  refine gg_5_1 (n := 26) (z := 25) X (by decide) (gsz hsz (by decide)) lay_23 kw_1_143 dX5_copyFrom_23 rfl (rf_23_1 IM1 (gsz hsz (by decide))) (by decide) ?_
  refine g_iconst (n := 27) X dX5_copyFrom_26 rfl ?_
  refine g_iload_n (n := 28) X 2 dX5_copyFrom_27 rfl rfl rfl ?_
  refine g_bipush (n := 30) X dX5_copyFrom_28 (by decide +kernel) rfl ?_
  refine g_imul (n := 31) (z := a * 16) X dX5_copyFrom_30 rfl rfl ?_
  refine g_acopyL (n := 34) X kw_6_3 kw_3_209 kw_3_208 kw_1_16 (by decide) (by omega) lay_230 (by decide) (gsz hsz (by decide)) lay_25 (by omega) (by omega) (by omega) (by omega) (Nat.le_of_ble_eq_true rfl) (Nat.le_of_ble_eq_true rfl) dX5_copyFrom_31 rfl ?_
  refine G.nm (fun M3 e4 => ?_)
  have IM3 : gI sz M3 := gI.cpy IM1 (by decide) (by omega) (fun k => ((ra_25 k).1.trans (ra_230 k).1.symm)) e4
  have CM3 : gC sz M3 := gC.cpy CM1 (fun k => (ra_25 k).2.1) e4
  exact hq _ _ _ dX5_copyFrom_34 ⟨IM3, CM3, (gFr.y (gFr.y gFr.rf e2 (fun k => (ra_24 k).2.2) rfl) e4 (fun k => (ra_25 k).2.2) rfl)⟩
