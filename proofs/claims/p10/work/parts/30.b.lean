theorem dX6_goTo_0 : decode cX6_goTo 0 = .ok (.aload_n 0, 1) := dc_42 (by decide +kernel)
theorem dX6_goTo_1 : decode cX6_goTo 1 = .ok (.iload_n 1, 1) := dc_27 (by decide +kernel)
theorem dX6_goTo_2 : decode cX6_goTo 2 = .ok (.putfield 40, 3) := dc_181 0 40 (by decide +kernel)
theorem kw_1_191 : (Jvm.Cond.fieldLink "ParishUnion$Person" (40 : Nat) "ParishUnion$Person" "at" "I") ∈ gT := gT_of (tb_1 _ (List.mem_of_getElem? (i := 191) rfl)) rfl
theorem dX6_goTo_5 : decode cX6_goTo 5 = .ok (.aload_n 0, 1) := dc_42 (by decide +kernel)
theorem dX6_goTo_6 : decode cX6_goTo 6 = .ok (.iconst (-1), 1) := dc_2 (by decide +kernel)
theorem dX6_goTo_7 : decode cX6_goTo 7 = .ok (.putfield 43, 3) := dc_181 0 43 (by decide +kernel)
theorem kw_1_203 : (Jvm.Cond.fieldLink "ParishUnion$Person" (43 : Nat) "ParishUnion$Person" "ward" "I") ∈ gT := gT_of (tb_1 _ (List.mem_of_getElem? (i := 203) rfl)) rfl
theorem dX6_goTo_10 : decode cX6_goTo 10 = .ok (.aload_n 0, 1) := dc_42 (by decide +kernel)
theorem dX6_goTo_11 : decode cX6_goTo 11 = .ok (.iconst (-1), 1) := dc_2 (by decide +kernel)
theorem dX6_goTo_12 : decode cX6_goTo 12 = .ok (.putfield 46, 3) := dc_181 0 46 (by decide +kernel)
theorem kw_1_206 : (Jvm.Cond.fieldLink "ParishUnion$Person" (46 : Nat) "ParishUnion$Person" "master" "I") ∈ gT := gT_of (tb_1 _ (List.mem_of_getElem? (i := 206) rfl)) rfl
theorem dX6_goTo_15 : decode cX6_goTo 15 = .ok (.aload_n 0, 1) := dc_42 (by decide +kernel)
theorem dX6_goTo_16 : decode cX6_goTo 16 = .ok (.iconst (-1), 1) := dc_2 (by decide +kernel)
theorem dX6_goTo_17 : decode cX6_goTo 17 = .ok (.putfield 49, 3) := dc_181 0 49 (by decide +kernel)
theorem kw_1_209 : (Jvm.Cond.fieldLink "ParishUnion$Person" (49 : Nat) "ParishUnion$Person" "askedFrom" "I") ∈ gT := gT_of (tb_1 _ (List.mem_of_getElem? (i := 209) rfl)) rfl
theorem dX6_goTo_20 : decode cX6_goTo 20 = .ok (.return_, 1) := dc_177 (by decide +kernel)
abbrev R_X6_goTo : Room := { frames := 0, cells := 0, slots := 0, locals := 0 }
set_option maxRecDepth 100000 in
set_option maxHeartbeats 4000000 in
theorem s_X6_goTo {l : Launch} {n0 : Nat} {D : va_G} {cA : Nat → ClassId} {M : gM} (o : Int) (r_o : 31 ≤ o ∧ o < 47) (a : Int) (r_a : 0 ≤ a ∧ a ≤ 8) {sz : Nat} (hsz : 206 ≤ sz) (I : gI sz M) (C : gC sz M)   : Met l yX6_goTo (gWsOf yX6_goTo cX6_goTo 2 (Option.none : Option Jvm.ClassFile.FieldType)) R_X6_goTo (gPc n0 D cA [gA n0 o, gJ a] M sz) (gQv n0 D cA sz (fun Mz => ∃ M1 : gM, M1 = gset M o 5 a ∧ ∃ M3 : gM, M3 = gset M1 o 8 (-1) ∧ ∃ M5 : gM, M5 = gset M3 o 9 (-1) ∧ ∃ M7 : gM, M7 = gset M5 o 10 (-1) ∧ M7 = Mz)) 0 0 (fun q => n0 ≤ q) := by
  refine gMetV [gA n0 o, gJ a] (by decide) (Nat.le_of_ble_eq_true rfl) ⟨rfl, rfl⟩ ?_
  intro p e s m args below meth cd Q X hq
  have X : gCx p s m args meth cd n0 D cA "ParishUnion$Person" cX6_goTo 2 := X
  show G p l e R_X6_goTo s m args below meth cd n0 D cA 2 Q 0 0 M sz 0 [(0, gA n0 o), (1, gJ a)] []
  refine g_aload_n (n := 1) X 0 dX6_goTo_0 rfl rfl rfl ?_
  refine g_iload_n (n := 2) X 1 dX6_goTo_1 rfl rfl rfl ?_
  refine gp_6_5 (n := 5) X (Po0 r_o) (Posz hsz r_o) (lay2_P r_o) kw_1_191 dX6_goTo_2 rfl ?_
  refine G.nm (fun M1 e2 => ?_)
  have IM1 : gI sz M1 := gI.set I (rP_5 r_o).1 (by omega) e2
  refine g_aload_n (n := 6) X 0 dX6_goTo_5 rfl rfl rfl ?_
  refine g_iconst (n := 7) X dX6_goTo_6 rfl ?_
  refine gp_6_8 (n := 10) X (Po0 r_o) (Posz hsz r_o) (lay2_P r_o) kw_1_203 dX6_goTo_7 rfl ?_
  refine G.nm (fun M3 e4 => ?_)
  have IM3 : gI sz M3 := gI.set IM1 (rP_8 r_o).1 (by omega) e4
  refine g_aload_n (n := 11) X 0 dX6_goTo_10 rfl rfl rfl ?_
  refine g_iconst (n := 12) X dX6_goTo_11 rfl ?_
  refine gp_6_9 (n := 15) X (Po0 r_o) (Posz hsz r_o) (lay2_P r_o) kw_1_206 dX6_goTo_12 rfl ?_
  refine G.nm (fun M5 e6 => ?_)
  have IM5 : gI sz M5 := gI.set IM3 (rP_9 r_o).1 (by omega) e6
  refine g_aload_n (n := 16) X 0 dX6_goTo_15 rfl rfl rfl ?_
  refine g_iconst (n := 17) X dX6_goTo_16 rfl ?_
  refine gp_6_10 (n := 20) X (Po0 r_o) (Posz hsz r_o) (lay2_P r_o) kw_1_209 dX6_goTo_17 rfl ?_
  refine G.nm (fun M7 e8 => ?_)
  have IM7 : gI sz M7 := gI.set IM5 (rP_10 r_o).1 (by omega) e8
  exact hq _ _ _ dX6_goTo_20 ⟨M1, e2, M3, e4, M5, e6, M7, e8, rfl⟩
theorem dX6_begin_0 : decode cX6_begin 0 = .ok (.aload_n 0, 1) := dc_42 (by decide +kernel)
theorem dX6_begin_1 : decode cX6_begin 1 = .ok (.iload_n 1, 1) := dc_27 (by decide +kernel)
theorem dX6_begin_2 : decode cX6_begin 2 = .ok (.putfield 9, 3) := dc_181 0 9 (by decide +kernel)
theorem kw_1_175 : (Jvm.Cond.fieldLink "ParishUnion$Person" (9 : Nat) "ParishUnion$Person" "sex" "I") ∈ gT := gT_of (tb_1 _ (List.mem_of_getElem? (i := 175) rfl)) rfl
theorem dX6_begin_5 : decode cX6_begin 5 = .ok (.aload_n 0, 1) := dc_42 (by decide +kernel)
theorem dX6_begin_6 : decode cX6_begin 6 = .ok (.iload_n 2, 1) := dc_28 (by decide +kernel)
theorem dX6_begin_7 : decode cX6_begin 7 = .ok (.putfield 15, 3) := dc_181 0 15 (by decide +kernel)
theorem kw_1_178 : (Jvm.Cond.fieldLink "ParishUnion$Person" (15 : Nat) "ParishUnion$Person" "born" "I") ∈ gT := gT_of (tb_1 _ (List.mem_of_getElem? (i := 178) rfl)) rfl
theorem dX6_begin_10 : decode cX6_begin 10 = .ok (.aload_n 0, 1) := dc_42 (by decide +kernel)
theorem dX6_begin_11 : decode cX6_begin 11 = .ok (.iload_n 3, 1) := dc_29 (by decide +kernel)
theorem dX6_begin_12 : decode cX6_begin 12 = .ok (.putfield 18, 3) := dc_181 0 18 (by decide +kernel)
theorem kw_1_181 : (Jvm.Cond.fieldLink "ParishUnion$Person" (18 : Nat) "ParishUnion$Person" "birthplace" "I") ∈ gT := gT_of (tb_1 _ (List.mem_of_getElem? (i := 181) rfl)) rfl
theorem dX6_begin_15 : decode cX6_begin 15 = .ok (.aload_n 0, 1) := dc_42 (by decide +kernel)
theorem dX6_begin_16 : decode cX6_begin 16 = .ok (.iload 4, 2) := dc_21 4 (by decide +kernel)
theorem dX6_begin_18 : decode cX6_begin 18 = .ok (.putfield 21, 3) := dc_181 0 21 (by decide +kernel)
theorem kw_1_184 : (Jvm.Cond.fieldLink "ParishUnion$Person" (21 : Nat) "ParishUnion$Person" "father" "I") ∈ gT := gT_of (tb_1 _ (List.mem_of_getElem? (i := 184) rfl)) rfl
theorem dX6_begin_21 : decode cX6_begin 21 = .ok (.aload_n 0, 1) := dc_42 (by decide +kernel)
theorem dX6_begin_22 : decode cX6_begin 22 = .ok (.iload 5, 2) := dc_21 5 (by decide +kernel)
theorem dX6_begin_24 : decode cX6_begin 24 = .ok (.putfield 24, 3) := dc_181 0 24 (by decide +kernel)
theorem kw_1_187 : (Jvm.Cond.fieldLink "ParishUnion$Person" (24 : Nat) "ParishUnion$Person" "strength" "I") ∈ gT := gT_of (tb_1 _ (List.mem_of_getElem? (i := 187) rfl)) rfl
theorem dX6_begin_27 : decode cX6_begin 27 = .ok (.aload_n 0, 1) := dc_42 (by decide +kernel)
theorem dX6_begin_28 : decode cX6_begin 28 = .ok (.iconst 0, 1) := dc_3 (by decide +kernel)
theorem dX6_begin_29 : decode cX6_begin 29 = .ok (.putfield 27, 3) := dc_181 0 27 (by decide +kernel)
theorem kw_1_196 : (Jvm.Cond.fieldLink "ParishUnion$Person" (27 : Nat) "ParishUnion$Person" "hunger" "I") ∈ gT := gT_of (tb_1 _ (List.mem_of_getElem? (i := 196) rfl)) rfl
theorem dX6_begin_32 : decode cX6_begin 32 = .ok (.aload_n 0, 1) := dc_42 (by decide +kernel)
theorem dX6_begin_33 : decode cX6_begin 33 = .ok (.iconst 0, 1) := dc_3 (by decide +kernel)
theorem dX6_begin_34 : decode cX6_begin 34 = .ok (.putfield 30, 3) := dc_181 0 30 (by decide +kernel)
theorem kw_1_200 : (Jvm.Cond.fieldLink "ParishUnion$Person" (30 : Nat) "ParishUnion$Person" "ill" "I") ∈ gT := gT_of (tb_1 _ (List.mem_of_getElem? (i := 200) rfl)) rfl
theorem dX6_begin_37 : decode cX6_begin 37 = .ok (.aload_n 0, 1) := dc_42 (by decide +kernel)
theorem dX6_begin_38 : decode cX6_begin 38 = .ok (.iconst 0, 1) := dc_3 (by decide +kernel)
theorem dX6_begin_39 : decode cX6_begin 39 = .ok (.putfield 33, 3) := dc_181 0 33 (by decide +kernel)
theorem kw_1_212 : (Jvm.Cond.fieldLink "ParishUnion$Person" (33 : Nat) "ParishUnion$Person" "toldAt" "I") ∈ gT := gT_of (tb_1 _ (List.mem_of_getElem? (i := 212) rfl)) rfl
theorem dX6_begin_42 : decode cX6_begin 42 = .ok (.aload_n 0, 1) := dc_42 (by decide +kernel)
theorem dX6_begin_43 : decode cX6_begin 43 = .ok (.iload_n 3, 1) := dc_29 (by decide +kernel)
theorem dX6_begin_44 : decode cX6_begin 44 = .ok (.invokevirtual 36, 3) := dc_182 0 36 (by decide +kernel)
theorem kw_3_64 : (Jvm.Cond.methodLink "ParishUnion$Person" (36 : Nat) ({ cls := "ParishUnion$Person", name := "goTo", desc := "(I)V" } : Jvm.MethodName)) ∈ gT := gT_of (tb_3 _ (List.mem_of_getElem? (i := 64) rfl)) rfl
theorem kw_3_67 : (Jvm.Cond.code ({ cls := "ParishUnion$Person", name := "goTo", desc := "(I)V" } : Jvm.MethodName) prog_8_method_6_code (2 : Nat) (Option.none : Option Jvm.ClassFile.FieldType)) ∈ gT := gT_of (tb_3 _ (List.mem_of_getElem? (i := 67) rfl)) rfl
theorem kw_1_8 : (Jvm.Cond.initialized "ParishUnion$Person") ∈ gT := gT_of (tb_1 _ (List.mem_of_getElem? (i := 8) rfl)) rfl
theorem okX6_goTo : gQok yX6_goTo cX6_goTo 2 (Option.none : Option Jvm.ClassFile.FieldType) 1 := ⟨kw_3_67, kw_1_8, by decide +kernel, by decide +kernel, by decide +kernel⟩
theorem kw_3_65 : (Jvm.Cond.instanceMethod ({ cls := "ParishUnion$Person", name := "goTo", desc := "(I)V" } : Jvm.MethodName)) ∈ gT := gT_of (tb_3 _ (List.mem_of_getElem? (i := 65) rfl)) rfl
theorem kw_3_66 : (Jvm.Cond.selects "ParishUnion$Person" ({ cls := "ParishUnion$Person", name := "goTo", desc := "(I)V" } : Jvm.MethodName) ({ cls := "ParishUnion$Person", name := "goTo", desc := "(I)V" } : Jvm.MethodName)) ∈ gT := gT_of (tb_3 _ (List.mem_of_getElem? (i := 66) rfl)) rfl
theorem dX6_begin_47 : decode cX6_begin 47 = .ok (.return_, 1) := dc_177 (by decide +kernel)
abbrev R_X6_begin : Room := { frames := 1, cells := 0, slots := 0, locals := 21 }
set_option maxRecDepth 100000 in
set_option maxHeartbeats 4000000 in
theorem s_X6_begin {l : Launch} {n0 : Nat} {D : va_G} {cA : Nat → ClassId} {M : gM} (o : Int) (r_o : 31 ≤ o ∧ o < 47) (a : Int) (r_a : 0 ≤ a ∧ a ≤ 1) (b : Int) (r_b : -3000 ≤ b ∧ b ≤ 300) (c : Int) (r_c : 0 ≤ c ∧ c ≤ 5) (d : Int) (r_d : -1 ≤ d ∧ d ≤ 15) (f : Int) (r_f : 0 ≤ f ∧ f ≤ 9) {sz : Nat} (hsz : 206 ≤ sz) (I : gI sz M) (C : gC sz M)   : Met l yX6_begin (gWsOf yX6_begin cX6_begin 6 (Option.none : Option Jvm.ClassFile.FieldType)) R_X6_begin (gPc n0 D cA [gA n0 o, gJ a, gJ b, gJ c, gJ d, gJ f] M sz) (gQv n0 D cA sz (fun Mz => ∃ M1 : gM, M1 = gset M o 0 a ∧ ∃ M3 : gM, M3 = gset M1 o 1 b ∧ ∃ M5 : gM, M5 = gset M3 o 2 c ∧ ∃ M7 : gM, M7 = gset M5 o 3 d ∧ ∃ M9 : gM, M9 = gset M7 o 4 f ∧ ∃ M11 : gM, M11 = gset M9 o 6 0 ∧ ∃ M13 : gM, M13 = gset M11 o 7 0 ∧ ∃ M15 : gM, M15 = gset M13 o 11 0 ∧ ∃ M20 : gM, M20 = gset M15 o 5 c ∧ ∃ M22 : gM, M22 = gset M20 o 8 (-1) ∧ ∃ M24 : gM, M24 = gset M22 o 9 (-1) ∧ ∃ M26 : gM, M26 = gset M24 o 10 (-1) ∧ M26 = Mz)) 0 0 (fun q => n0 ≤ q) := by
  refine gMetV [gA n0 o, gJ a, gJ b, gJ c, gJ d, gJ f] (by decide) (Nat.le_of_ble_eq_true rfl) ⟨rfl, rfl⟩ ?_
  intro p e s m args below meth cd Q X hq
  have X : gCx p s m args meth cd n0 D cA "ParishUnion$Person" cX6_begin 6 := X
  show G p l e R_X6_begin s m args below meth cd n0 D cA 6 Q 0 0 M sz 0 [(0, gA n0 o), (1, gJ a), (2, gJ b), (3, gJ c), (4, gJ d), (5, gJ f)] []
  refine g_aload_n (n := 1) X 0 dX6_begin_0 rfl rfl rfl ?_
  refine g_iload_n (n := 2) X 1 dX6_begin_1 rfl rfl rfl ?_
  refine gp_6_0 (n := 5) X (Po0 r_o) (Posz hsz r_o) (lay2_P r_o) kw_1_175 dX6_begin_2 rfl ?_
  refine G.nm (fun M1 e2 => ?_)
  have IM1 : gI sz M1 := gI.set I (rP_0 r_o).1 (by omega) e2
  have CM1 : gC sz M1 := gC.set C (rP_0 r_o).2.1 e2
  refine g_aload_n (n := 6) X 0 dX6_begin_5 rfl rfl rfl ?_
  refine g_iload_n (n := 7) X 2 dX6_begin_6 rfl rfl rfl ?_
  refine gp_6_1 (n := 10) X (Po0 r_o) (Posz hsz r_o) (lay2_P r_o) kw_1_178 dX6_begin_7 rfl ?_
  refine G.nm (fun M3 e4 => ?_)
  have IM3 : gI sz M3 := gI.set IM1 (rP_1 r_o).1 (by omega) e4
  have CM3 : gC sz M3 := gC.set CM1 (rP_1 r_o).2.1 e4
  refine g_aload_n (n := 11) X 0 dX6_begin_10 rfl rfl rfl ?_
  refine g_iload_n (n := 12) X 3 dX6_begin_11 rfl rfl rfl ?_
  refine gp_6_2 (n := 15) X (Po0 r_o) (Posz hsz r_o) (lay2_P r_o) kw_1_181 dX6_begin_12 rfl ?_
  refine G.nm (fun M5 e6 => ?_)
  have IM5 : gI sz M5 := gI.set IM3 (rP_2 r_o).1 (by omega) e6
  have CM5 : gC sz M5 := gC.set CM3 (rP_2 r_o).2.1 e6
  refine g_aload_n (n := 16) X 0 dX6_begin_15 rfl rfl rfl ?_
  refine g_iload (n := 18) X 4 dX6_begin_16 rfl rfl ?_
  refine gp_6_3 (n := 21) X (Po0 r_o) (Posz hsz r_o) (lay2_P r_o) kw_1_184 dX6_begin_18 rfl ?_
  refine G.nm (fun M7 e8 => ?_)
  have IM7 : gI sz M7 := gI.set IM5 (rP_3 r_o).1 (by omega) e8
  have CM7 : gC sz M7 := gC.set CM5 (rP_3 r_o).2.1 e8
  refine g_aload_n (n := 22) X 0 dX6_begin_21 rfl rfl rfl ?_
  refine g_iload (n := 24) X 5 dX6_begin_22 rfl rfl ?_
  refine gp_6_4 (n := 27) X (Po0 r_o) (Posz hsz r_o) (lay2_P r_o) kw_1_187 dX6_begin_24 rfl ?_
  refine G.nm (fun M9 e10 => ?_)
  have IM9 : gI sz M9 := gI.set IM7 (rP_4 r_o).1 (by omega) e10
  have CM9 : gC sz M9 := gC.set CM7 (rP_4 r_o).2.1 e10
  refine g_aload_n (n := 28) X 0 dX6_begin_27 rfl rfl rfl ?_
  refine g_iconst (n := 29) X dX6_begin_28 rfl ?_
  refine gp_6_6 (n := 32) X (Po0 r_o) (Posz hsz r_o) (lay2_P r_o) kw_1_196 dX6_begin_29 rfl ?_
  refine G.nm (fun M11 e12 => ?_)
  have IM11 : gI sz M11 := gI.set IM9 (rP_6 r_o).1 (by omega) e12
  have CM11 : gC sz M11 := gC.set CM9 (rP_6 r_o).2.1 e12
  refine g_aload_n (n := 33) X 0 dX6_begin_32 rfl rfl rfl ?_
  refine g_iconst (n := 34) X dX6_begin_33 rfl ?_
  refine gp_6_7 (n := 37) X (Po0 r_o) (Posz hsz r_o) (lay2_P r_o) kw_1_200 dX6_begin_34 rfl ?_
  refine G.nm (fun M13 e14 => ?_)
  have IM13 : gI sz M13 := gI.set IM11 (rP_7 r_o).1 (by omega) e14
  have CM13 : gC sz M13 := gC.set CM11 (rP_7 r_o).2.1 e14
  refine g_aload_n (n := 38) X 0 dX6_begin_37 rfl rfl rfl ?_
  refine g_iconst (n := 39) X dX6_begin_38 rfl ?_
  refine gp_6_11 (n := 42) X (Po0 r_o) (Posz hsz r_o) (lay2_P r_o) kw_1_212 dX6_begin_39 rfl ?_
  refine G.nm (fun M15 e16 => ?_)
  have IM15 : gI sz M15 := gI.set IM13 (rP_11 r_o).1 (by omega) e16
  have CM15 : gC sz M15 := gC.set CM13 (rP_11 r_o).2.1 e16
  refine g_aload_n (n := 43) X 0 dX6_begin_42 rfl rfl rfl ?_
  refine g_iload_n (n := 44) X 3 dX6_begin_43 rfl rfl rfl ?_
  refine g_callVv (n := 47) (As := [gJ c]) (rest := []) (cs1 := 0) (ss1 := 0) X (s_X6_goTo o r_o c (by omega) hsz IM15 CM15 ) okX6_goTo kw_3_64 ⟨kw_3_65, kw_3_66⟩ ⟨rfl, rfl⟩ ⟨Nat.le_of_ble_eq_true rfl, Nat.le_of_ble_eq_true rfl⟩ rfl (Po0 r_o) (Posz hsz r_o) (lay2_P r_o) rfl rfl (Nat.le_of_ble_eq_true rfl) ⟨Nat.le_of_ble_eq_true rfl, Nat.le_of_ble_eq_true rfl⟩ rfl rfl dX6_begin_44 rfl (fun M18 P19 => ?_)
  obtain ⟨M20, e21, M22, e23, M24, e25, M26, e27, rfl⟩ := P19
  have IM20 : gI sz M20 := gI.set IM15 (rP_5 r_o).1 (by omega) e21
  have CM20 : gC sz M20 := gC.at CM15 (by omega) (by omega) e21
  have IM22 : gI sz M22 := gI.set IM20 (rP_8 r_o).1 (by omega) e23
  have IM24 : gI sz M24 := gI.set IM22 (rP_9 r_o).1 (by omega) e25
  have IM26 : gI sz M26 := gI.set IM24 (rP_10 r_o).1 (by omega) e27
  have CM26 : gC sz M26 := gC.pers CM20 r_o (fun a b h => ((congrFun (congrFun e27 a) b).trans ((gset_ne (fun q => h q.1)).trans ((congrFun (congrFun e25 a) b).trans ((gset_ne (fun q => h q.1)).trans ((congrFun (congrFun e23 a) b).trans ((gset_ne (fun q => h q.1)).trans rfl))))))) (by have q5 : M26 o 5 = c := ((congrFun (congrFun e27 _) _).trans ((gset_ne (by omega)).trans ((congrFun (congrFun e25 _) _).trans ((gset_ne (by omega)).trans ((congrFun (congrFun e23 _) _).trans ((gset_ne (by omega)).trans ((congrFun (congrFun e21 _) _).trans (gset_eq _ _ _ _)))))))); have q8 : M26 o 8 = (-1) := ((congrFun (congrFun e27 _) _).trans ((gset_ne (by omega)).trans ((congrFun (congrFun e25 _) _).trans ((gset_ne (by omega)).trans ((congrFun (congrFun e23 _) _).trans (gset_eq _ _ _ _)))))); have q10 : M26 o 10 = (-1) := ((congrFun (congrFun e27 _) _).trans (gset_eq _ _ _ _)); omega)
  exact hq _ _ _ dX6_begin_47 ⟨M1, e2, M3, e4, M5, e6, M7, e8, M9, e10, M11, e12, M13, e14, M15, e16, M20, e21, M22, e23, M24, e25, M26, e27, rfl⟩
theorem dX6_beginWeek_0 : decode cX6_beginWeek 0 = .ok (.aload_n 0, 1) := dc_42 (by decide +kernel)
theorem dX6_beginWeek_1 : decode cX6_beginWeek 1 = .ok (.iconst 0, 1) := dc_3 (by decide +kernel)
theorem dX6_beginWeek_2 : decode cX6_beginWeek 2 = .ok (.putfield 55, 3) := dc_181 0 55 (by decide +kernel)
theorem kw_1_214 : (Jvm.Cond.fieldLink "ParishUnion$Person" (55 : Nat) "ParishUnion$Person" "eaten" "I") ∈ gT := gT_of (tb_1 _ (List.mem_of_getElem? (i := 214) rfl)) rfl
theorem dX6_beginWeek_5 : decode cX6_beginWeek 5 = .ok (.aload_n 0, 1) := dc_42 (by decide +kernel)
theorem dX6_beginWeek_6 : decode cX6_beginWeek 6 = .ok (.iconst 0, 1) := dc_3 (by decide +kernel)
theorem dX6_beginWeek_7 : decode cX6_beginWeek 7 = .ok (.putfield 58, 3) := dc_181 0 58 (by decide +kernel)
theorem kw_1_217 : (Jvm.Cond.fieldLink "ParishUnion$Person" (58 : Nat) "ParishUnion$Person" "given" "I") ∈ gT := gT_of (tb_1 _ (List.mem_of_getElem? (i := 217) rfl)) rfl
theorem dX6_beginWeek_10 : decode cX6_beginWeek 10 = .ok (.aload_n 0, 1) := dc_42 (by decide +kernel)
theorem dX6_beginWeek_11 : decode cX6_beginWeek 11 = .ok (.iconst 0, 1) := dc_3 (by decide +kernel)
theorem dX6_beginWeek_12 : decode cX6_beginWeek 12 = .ok (.putfield 61, 3) := dc_181 0 61 (by decide +kernel)
theorem kw_1_220 : (Jvm.Cond.fieldLink "ParishUnion$Person" (61 : Nat) "ParishUnion$Person" "asked" "Z") ∈ gT := gT_of (tb_1 _ (List.mem_of_getElem? (i := 220) rfl)) rfl
theorem dX6_beginWeek_15 : decode cX6_beginWeek 15 = .ok (.return_, 1) := dc_177 (by decide +kernel)
abbrev R_X6_beginWeek : Room := { frames := 0, cells := 0, slots := 0, locals := 0 }
set_option maxRecDepth 100000 in
set_option maxHeartbeats 4000000 in
theorem s_X6_beginWeek {l : Launch} {n0 : Nat} {D : va_G} {cA : Nat → ClassId} {M : gM} (o : Int) (r_o : 31 ≤ o ∧ o < 47) {sz : Nat} (hsz : 206 ≤ sz) (I : gI sz M) (C : gC sz M)   : Met l yX6_beginWeek (gWsOf yX6_beginWeek cX6_beginWeek 1 (Option.none : Option Jvm.ClassFile.FieldType)) R_X6_beginWeek (gPc n0 D cA [gA n0 o] M sz) (gQv n0 D cA sz (fun Mz => ∃ M1 : gM, M1 = gset M o 12 0 ∧ ∃ M3 : gM, M3 = gset M1 o 13 0 ∧ ∃ M5 : gM, M5 = gset M3 o 14 0 ∧ M5 = Mz)) 0 0 (fun q => n0 ≤ q) := by
  refine gMetV [gA n0 o] (by decide) (Nat.le_of_ble_eq_true rfl) ⟨rfl, rfl⟩ ?_
  intro p e s m args below meth cd Q X hq
  have X : gCx p s m args meth cd n0 D cA "ParishUnion$Person" cX6_beginWeek 1 := X
  show G p l e R_X6_beginWeek s m args below meth cd n0 D cA 1 Q 0 0 M sz 0 [(0, gA n0 o)] []
  refine g_aload_n (n := 1) X 0 dX6_beginWeek_0 rfl rfl rfl ?_
  refine g_iconst (n := 2) X dX6_beginWeek_1 rfl ?_
  refine gp_6_12 (n := 5) X (Po0 r_o) (Posz hsz r_o) (lay2_P r_o) kw_1_214 dX6_beginWeek_2 rfl ?_
  refine G.nm (fun M1 e2 => ?_)
  have IM1 : gI sz M1 := gI.set I (rP_12 r_o).1 (by omega) e2
  have CM1 : gC sz M1 := gC.set C (rP_12 r_o).2.1 e2
  refine g_aload_n (n := 6) X 0 dX6_beginWeek_5 rfl rfl rfl ?_
  refine g_iconst (n := 7) X dX6_beginWeek_6 rfl ?_
  refine gp_6_13 (n := 10) X (Po0 r_o) (Posz hsz r_o) (lay2_P r_o) kw_1_217 dX6_beginWeek_7 rfl ?_
  refine G.nm (fun M3 e4 => ?_)
  have IM3 : gI sz M3 := gI.set IM1 (rP_13 r_o).1 (by omega) e4
  have CM3 : gC sz M3 := gC.set CM1 (rP_13 r_o).2.1 e4
  refine g_aload_n (n := 11) X 0 dX6_beginWeek_10 rfl rfl rfl ?_
  refine g_iconst (n := 12) X dX6_beginWeek_11 rfl ?_
  refine gp_6_14 (n := 15) X (Po0 r_o) (Posz hsz r_o) (lay2_P r_o) kw_1_220 (by omega) dX6_beginWeek_12 rfl ?_
  refine G.nm (fun M5 e6 => ?_)
  have IM5 : gI sz M5 := gI.set IM3 (rP_14 r_o).1 (by omega) e6
  have CM5 : gC sz M5 := gC.set CM3 (rP_14 r_o).2.1 e6
  exact hq _ _ _ dX6_beginWeek_15 ⟨M1, e2, M3, e4, M5, e6, rfl⟩
theorem dX6_isAtParish_0 : decode cX6_isAtParish 0 = .ok (.aload_n 0, 1) := dc_42 (by decide +kernel)
theorem dX6_isAtParish_1 : decode cX6_isAtParish 1 = .ok (.getfield 40, 3) := dc_180 0 40 (by decide +kernel)
theorem dX6_isAtParish_4 : decode cX6_isAtParish 4 = .ok (.bipush 6, 2) := dc_16 6 6 (by decide +kernel)
theorem dX6_isAtParish_6 : decode cX6_isAtParish 6 = .ok (.if_icmp .ge 7, 3) := dc_162 0 7 7 (by decide +kernel)
theorem dX6_isAtParish_13 : decode cX6_isAtParish 13 = .ok (.iconst 0, 1) := dc_3 (by decide +kernel)
theorem dX6_isAtParish_14 : decode cX6_isAtParish 14 = .ok (.ireturn, 1) := dc_172 (by decide +kernel)
theorem dX6_isAtParish_9 : decode cX6_isAtParish 9 = .ok (.iconst 1, 1) := dc_4 (by decide +kernel)
theorem dX6_isAtParish_10 : decode cX6_isAtParish 10 = .ok (.goto 4, 3) := dc_167 0 4 4 (by decide +kernel)
abbrev R_X6_isAtParish : Room := { frames := 0, cells := 0, slots := 0, locals := 0 }
set_option maxRecDepth 100000 in
set_option maxHeartbeats 4000000 in
theorem s_X6_isAtParish {l : Launch} {n0 : Nat} {D : va_G} {cA : Nat → ClassId} {M : gM} (o : Int) (r_o : 31 ≤ o ∧ o < 47) {sz : Nat} (hsz : 206 ≤ sz) (I : gI sz M) (C : gC sz M)   : Met l yX6_isAtParish (gWsOf yX6_isAtParish cX6_isAtParish 1 (Option.some Jvm.ClassFile.FieldType.boolean)) R_X6_isAtParish (gPc n0 D cA [gA n0 o] M sz) (gQi n0 D cA sz (fun z M1 => M = M1 ∧ (0 ≤ z ∧ z ≤ 1) ∧ ((M o 5 < 6 ∧ z = 1 ∨ ¬ M o 5 < 6 ∧ z = 0)))) 0 0 (fun q => n0 ≤ q) := by
  refine gMetZ [gA n0 o] (by decide) (Nat.le_of_ble_eq_true rfl) ⟨rfl, rfl⟩ ?_
  intro p e s m args below meth cd Q X hq
  have X : gCx p s m args meth cd n0 D cA "ParishUnion$Person" cX6_isAtParish 1 := X
  show G p l e R_X6_isAtParish s m args below meth cd n0 D cA 1 Q 0 0 M sz 0 [(0, gA n0 o)] []
  refine g_aload_n (n := 1) X 0 dX6_isAtParish_0 rfl rfl rfl ?_
  obtain ⟨v1, hv1, rv1⟩ := gRd I (Po0 r_o) (Posz hsz r_o) (rP_5 r_o).1
  refine gg_6_5 (n := 4) (z := v1) X (Po0 r_o) (Posz hsz r_o) (lay2_P r_o) kw_1_191 dX6_isAtParish_1 rfl hv1 ?_
  refine g_bipush (n := 6) X dX6_isAtParish_4 (by decide +kernel) rfl ?_
  refine g_icmp_ge (n := 9) (tgt := 13) X dX6_isAtParish_6 (by decide) (by omega) (by omega) rfl (fun c2 => ?_) (fun c2 => ?_)
  · refine g_iconst (n := 14) X dX6_isAtParish_13 rfl ?_
    exact hq _ _ _ _ dX6_isAtParish_14 (by omega) ⟨rfl, by omega, by omega⟩
  · refine g_iconst (n := 10) X dX6_isAtParish_9 rfl ?_
    refine g_goto (tgt := 14) X dX6_isAtParish_10 (by decide) ?_
    exact hq _ _ _ _ dX6_isAtParish_14 (by omega) ⟨rfl, by omega, by omega⟩
theorem dX6_ageIn_0 : decode cX6_ageIn 0 = .ok (.iload_n 1, 1) := dc_27 (by decide +kernel)
theorem dX6_ageIn_1 : decode cX6_ageIn 1 = .ok (.aload_n 0, 1) := dc_42 (by decide +kernel)
theorem dX6_ageIn_2 : decode cX6_ageIn 2 = .ok (.getfield 15, 3) := dc_180 0 15 (by decide +kernel)
theorem dX6_ageIn_5 : decode cX6_ageIn 5 = .ok (.isub, 1) := dc_100 (by decide +kernel)
theorem dX6_ageIn_6 : decode cX6_ageIn 6 = .ok (.bipush 50, 2) := dc_16 50 50 (by decide +kernel)
theorem dX6_ageIn_8 : decode cX6_ageIn 8 = .ok (.idiv, 1) := dc_108 (by decide +kernel)
theorem dX6_ageIn_9 : decode cX6_ageIn 9 = .ok (.ireturn, 1) := dc_172 (by decide +kernel)
abbrev R_X6_ageIn : Room := { frames := 0, cells := 0, slots := 0, locals := 0 }
set_option maxRecDepth 100000 in
set_option maxHeartbeats 4000000 in
theorem s_X6_ageIn {l : Launch} {n0 : Nat} {D : va_G} {cA : Nat → ClassId} {M : gM} (o : Int) (r_o : 31 ≤ o ∧ o < 47) (a : Int) (r_a : 0 ≤ a ∧ a ≤ 300) {sz : Nat} (hsz : 206 ≤ sz) (I : gI sz M) (C : gC sz M)   : Met l yX6_ageIn (gWsOf yX6_ageIn cX6_ageIn 2 (Option.some Jvm.ClassFile.FieldType.int)) R_X6_ageIn (gPc n0 D cA [gA n0 o, gJ a] M sz) (gQi n0 D cA sz (fun z M1 => M = M1 ∧ (-2147483648 ≤ z ∧ z ≤ 2147483647))) 0 0 (fun q => n0 ≤ q) := by
  refine gMetI [gA n0 o, gJ a] (by decide) (Nat.le_of_ble_eq_true rfl) ⟨rfl, rfl⟩ ?_
  intro p e s m args below meth cd Q X hq
  have X : gCx p s m args meth cd n0 D cA "ParishUnion$Person" cX6_ageIn 2 := X
  show G p l e R_X6_ageIn s m args below meth cd n0 D cA 2 Q 0 0 M sz 0 [(0, gA n0 o), (1, gJ a)] []
  refine g_iload_n (n := 1) X 1 dX6_ageIn_0 rfl rfl rfl ?_
  refine g_aload_n (n := 2) X 0 dX6_ageIn_1 rfl rfl rfl ?_
  obtain ⟨v1, hv1, rv1⟩ := gRd I (Po0 r_o) (Posz hsz r_o) (rP_1 r_o).1
  refine gg_6_1 (n := 5) (z := v1) X (Po0 r_o) (Posz hsz r_o) (lay2_P r_o) kw_1_178 dX6_ageIn_2 rfl hv1 ?_
  refine g_isub (n := 6) (z := a - v1) X dX6_ageIn_5 rfl rfl ?_
  refine g_bipush (n := 8) X dX6_ageIn_6 (by decide +kernel) rfl ?_
  refine g_idivA (n := 9) X dX6_ageIn_8 (by decide +kernel) rfl (fun v2 rv2 xv2 => ?_)
  clear xv2
  exact hq _ _ _ _ dX6_ageIn_9 ⟨rfl, by omega⟩
