theorem dX11_findHomes_0 : decode cX11_findHomes 0 = .ok (.aload_n 0, 1) := dc_42 (by decide +kernel)
theorem dX11_findHomes_1 : decode cX11_findHomes 1 = .ok (.getfield 19, 3) := dc_180 0 19 (by decide +kernel)
theorem kw_2_232 : (Jvm.Cond.fieldLink "ParishUnion" (19 : Nat) "ParishUnion" "bench" "LParishUnion$Bench;") ∈ gT := gT_of (tb_2 _ (List.mem_of_getElem? (i := 232) rfl)) rfl
theorem rf_0_1 {sz : Nat} {M : gM} (I : gI sz M) (h : (0 : Int) < (sz : Int)) : M 0 1 = 153 + 1 := gI.rf I (by decide) h (by decide +kernel)
theorem dX11_findHomes_4 : decode cX11_findHomes 4 = .ok (.aload_n 0, 1) := dc_42 (by decide +kernel)
theorem dX11_findHomes_5 : decode cX11_findHomes 5 = .ok (.getfield 10, 3) := dc_180 0 10 (by decide +kernel)
theorem dX11_findHomes_8 : decode cX11_findHomes 8 = .ok (.iconst (-1), 1) := dc_2 (by decide +kernel)
theorem dX11_findHomes_9 : decode cX11_findHomes 9 = .ok (.invokevirtual 190, 3) := dc_182 0 190 (by decide +kernel)
theorem kw_3_133 : (Jvm.Cond.methodLink "ParishUnion" (190 : Nat) ({ cls := "ParishUnion$Bench", name := "prepare", desc := "(LParishUnion$Union;I)V" } : Jvm.MethodName)) ∈ gT := gT_of (tb_3 _ (List.mem_of_getElem? (i := 133) rfl)) rfl
theorem kw_3_136 : (Jvm.Cond.code ({ cls := "ParishUnion$Bench", name := "prepare", desc := "(LParishUnion$Union;I)V" } : Jvm.MethodName) prog_3_method_2_code (5 : Nat) (Option.none : Option Jvm.ClassFile.FieldType)) ∈ gT := gT_of (tb_3 _ (List.mem_of_getElem? (i := 136) rfl)) rfl
theorem okX1_prepare : gQok yX1_prepare cX1_prepare 5 (Option.none : Option Jvm.ClassFile.FieldType) 2 := ⟨kw_3_136, kw_1_11, by decide +kernel, by decide +kernel, by decide +kernel⟩
theorem kw_3_134 : (Jvm.Cond.instanceMethod ({ cls := "ParishUnion$Bench", name := "prepare", desc := "(LParishUnion$Union;I)V" } : Jvm.MethodName)) ∈ gT := gT_of (tb_3 _ (List.mem_of_getElem? (i := 134) rfl)) rfl
theorem kw_3_135 : (Jvm.Cond.selects "ParishUnion$Bench" ({ cls := "ParishUnion$Bench", name := "prepare", desc := "(LParishUnion$Union;I)V" } : Jvm.MethodName) ({ cls := "ParishUnion$Bench", name := "prepare", desc := "(LParishUnion$Union;I)V" } : Jvm.MethodName)) ∈ gT := gT_of (tb_3 _ (List.mem_of_getElem? (i := 135) rfl)) rfl
theorem dX11_findHomes_12 : decode cX11_findHomes 12 = .ok (.iconst 0, 1) := dc_3 (by decide +kernel)
theorem dX11_findHomes_13 : decode cX11_findHomes 13 = .ok (.istore_n 1, 1) := dc_60 (by decide +kernel)
theorem dX11_findHomes_14 : decode cX11_findHomes 14 = .ok (.iload_n 1, 1) := dc_27 (by decide +kernel)
theorem dX11_findHomes_15 : decode cX11_findHomes 15 = .ok (.aload_n 0, 1) := dc_42 (by decide +kernel)
theorem dX11_findHomes_16 : decode cX11_findHomes 16 = .ok (.getfield 10, 3) := dc_180 0 10 (by decide +kernel)
theorem dX11_findHomes_19 : decode cX11_findHomes 19 = .ok (.getfield 98, 3) := dc_180 0 98 (by decide +kernel)
theorem dX11_findHomes_22 : decode cX11_findHomes 22 = .ok (.if_icmp .ge 43, 3) := dc_162 0 43 43 (by decide +kernel)
theorem dX11_findHomes_65 : decode cX11_findHomes 65 = .ok (.return_, 1) := dc_177 (by decide +kernel)
theorem dX11_findHomes_25 : decode cX11_findHomes 25 = .ok (.aload_n 0, 1) := dc_42 (by decide +kernel)
theorem dX11_findHomes_26 : decode cX11_findHomes 26 = .ok (.getfield 10, 3) := dc_180 0 10 (by decide +kernel)
theorem dX11_findHomes_29 : decode cX11_findHomes 29 = .ok (.getfield 89, 3) := dc_180 0 89 (by decide +kernel)
theorem kw_2_108 : (Jvm.Cond.fieldLink "ParishUnion" (89 : Nat) "ParishUnion$Union" "persons" "[LParishUnion$Person;") ∈ gT := gT_of (tb_2 _ (List.mem_of_getElem? (i := 108) rfl)) rfl
theorem dX11_findHomes_32 : decode cX11_findHomes 32 = .ok (.iload_n 1, 1) := dc_27 (by decide +kernel)
theorem dX11_findHomes_33 : decode cX11_findHomes 33 = .ok (.aaload, 1) := dc_50 (by decide +kernel)
theorem dX11_findHomes_34 : decode cX11_findHomes 34 = .ok (.aload_n 0, 1) := dc_42 (by decide +kernel)
theorem dX11_findHomes_35 : decode cX11_findHomes 35 = .ok (.getfield 19, 3) := dc_180 0 19 (by decide +kernel)
theorem dX11_findHomes_38 : decode cX11_findHomes 38 = .ok (.aload_n 0, 1) := dc_42 (by decide +kernel)
theorem dX11_findHomes_39 : decode cX11_findHomes 39 = .ok (.getfield 10, 3) := dc_180 0 10 (by decide +kernel)
theorem dX11_findHomes_42 : decode cX11_findHomes 42 = .ok (.iload_n 1, 1) := dc_27 (by decide +kernel)
theorem dX11_findHomes_43 : decode cX11_findHomes 43 = .ok (.aload_n 0, 1) := dc_42 (by decide +kernel)
theorem dX11_findHomes_44 : decode cX11_findHomes 44 = .ok (.getfield 10, 3) := dc_180 0 10 (by decide +kernel)
theorem dX11_findHomes_47 : decode cX11_findHomes 47 = .ok (.getfield 85, 3) := dc_180 0 85 (by decide +kernel)
theorem dX11_findHomes_50 : decode cX11_findHomes 50 = .ok (.ldc2_w 334, 3) := dc_20 1 78 (by decide +kernel)
theorem kw_3_159 : (Jvm.Cond.constantLong "ParishUnion" (334 : Nat) (-1 : Int64)) ∈ gT := gT_of (tb_3 _ (List.mem_of_getElem? (i := 159) rfl)) rfl
theorem dX11_findHomes_53 : decode cX11_findHomes 53 = .ok (.invokevirtual 198, 3) := dc_182 0 198 (by decide +kernel)
theorem kw_3_160 : (Jvm.Cond.methodLink "ParishUnion" (198 : Nat) ({ cls := "ParishUnion$Bench", name := "whose", desc := "(LParishUnion$Union;IIJ)I" } : Jvm.MethodName)) ∈ gT := gT_of (tb_3 _ (List.mem_of_getElem? (i := 160) rfl)) rfl
theorem dX11_findHomes_56 : decode cX11_findHomes 56 = .ok (.putfield 431, 3) := dc_181 1 175 (by decide +kernel)
theorem kw_1_225 : (Jvm.Cond.fieldLink "ParishUnion" (431 : Nat) "ParishUnion$Person" "home" "I") ∈ gT := gT_of (tb_1 _ (List.mem_of_getElem? (i := 225) rfl)) rfl
theorem dX11_findHomes_59 : decode cX11_findHomes 59 = .ok (.iinc 1 1, 3) := dc_132 1 1 1 (by decide +kernel)
theorem dX11_findHomes_62 : decode cX11_findHomes 62 = .ok (.goto (-48), 3) := dc_167 255 208 (-48) (by decide +kernel)
abbrev R_X11_findHomes : Room := { frames := 6, cells := 0, slots := 0, locals := 167 }
set_option maxRecDepth 100000 in
set_option maxHeartbeats 4000000 in
theorem s_X11_findHomes {l : Launch} {n0 : Nat} {D : va_G} {cA : Nat → ClassId} {M : gM}  {sz : Nat} (hsz : 206 ≤ sz) (I : gI sz M) (C : gC sz M)   : Met l yX11_findHomes (gWsOf yX11_findHomes cX11_findHomes 2 (Option.none : Option Jvm.ClassFile.FieldType)) R_X11_findHomes (gPc n0 D cA [gA n0 0] M sz) (gQv n0 D cA sz (fun M1 => gI sz M1 ∧ gC sz M1 ∧ gFr 33554496 M M1)) 0 0 (fun q => n0 ≤ q) := by
  refine gMetV [gA n0 0] (by decide) (Nat.le_of_ble_eq_true rfl) ⟨rfl, rfl⟩ ?_
  intro p e s m args below meth cd Q X hq
  have X : gCx p s m args meth cd n0 D cA "ParishUnion" cX11_findHomes 2 := X
  show G p l e R_X11_findHomes s m args below meth cd n0 D cA 2 Q 0 0 M sz 0 [(0, gA n0 0)] []
  refine g_aload_n (n := 1) X 0 dX11_findHomes_0 rfl rfl rfl ?_
  refine gg_11_1 (n := 4) (z := 153) X (by decide) (gsz hsz (by decide)) lay_0 kw_2_232 dX11_findHomes_1 rfl (rf_0_1 I (gsz hsz (by decide))) (by decide) ?_
  refine g_aload_n (n := 5) X 0 dX11_findHomes_4 rfl rfl rfl ?_
  refine gg_11_0 (n := 8) (z := 1) X (by decide) (gsz hsz (by decide)) lay_0 kw_2_231 dX11_findHomes_5 rfl (rf_0_0 I (gsz hsz (by decide))) (by decide) ?_
  refine g_iconst (n := 9) X dX11_findHomes_8 rfl ?_
  refine g_callVv (n := 12) (As := [gA n0 1, gJ (-1)]) (rest := []) (cs1 := 0) (ss1 := 0) X (s_X1_prepare (-1) (by omega) hsz I C ) okX1_prepare kw_3_133 ⟨kw_3_134, kw_3_135⟩ ⟨rfl, rfl⟩ ⟨Nat.le_of_ble_eq_true rfl, Nat.le_of_ble_eq_true rfl⟩ rfl (by decide) (gsz hsz (by decide)) lay_153 rfl rfl (Nat.le_of_ble_eq_true rfl) ⟨Nat.le_of_ble_eq_true rfl, Nat.le_of_ble_eq_true rfl⟩ rfl rfl dX11_findHomes_9 rfl (fun M2 P3 => ?_)
  obtain ⟨IM2, CM2, FM2⟩ := P3
  refine g_iconst (n := 13) X dX11_findHomes_12 rfl ?_
  refine g_istore_n (n := 14) (L' := [(1, gJ 0), (0, gA n0 0)]) X dX11_findHomes_13 rfl (by decide) rfl rfl ?_
  have j6 : ∀ (N52 : Nat) (v4 : Int) (M5 : gM) , (0 ≤ v4 ∧ v4 ≤ 16) → gI sz M5 → gC sz M5 → gFr 64 M2 M5 → (16 - v4).toNat < N52 → G p l e R_X11_findHomes s m args below meth cd n0 D cA 2 Q 0 0 M5 sz 14 [(0, gA n0 0), (1, gJ v4)] [] := by
    intro N52; induction N52 with
    | zero => intro v4 M5 rv4 IM5 CM5 FM5 hm54; exfalso; omega
    | succ N52 ih53 =>
      intro v4 M5 rv4 IM5 CM5 FM5 hm54
      refine g_iload_n (n := 15) X 1 dX11_findHomes_14 rfl rfl rfl ?_
      refine g_aload_n (n := 16) X 0 dX11_findHomes_15 rfl rfl rfl ?_
      refine gg_11_0 (n := 19) (z := 1) X (by decide) (gsz hsz (by decide)) lay_0 kw_2_231 dX11_findHomes_16 rfl (rf_0_0 IM5 (gsz hsz (by decide))) (by decide) ?_
      obtain ⟨v55, hv55, rv55⟩ := gRd IM5 (by decide) (gsz hsz (by decide)) rc_1_10.1
      refine gg_9_10 (n := 22) (z := v55) X (by decide) (gsz hsz (by decide)) lay_1 kw_2_127 dX11_findHomes_19 rfl hv55 ?_
      refine g_icmp_ge (n := 25) (tgt := 65) X dX11_findHomes_22 (by decide) (by omega) (by omega) rfl (fun c56 => ?_) (fun c56 => ?_)
      · exact hq _ _ _ dX11_findHomes_65 ⟨IM5, CM5, (gFr.c (gFr.c gFr.rf FM2 rfl) FM5 rfl)⟩
      · refine g_aload_n (n := 26) X 0 dX11_findHomes_25 rfl rfl rfl ?_
        refine gg_11_0 (n := 29) (z := 1) X (by decide) (gsz hsz (by decide)) lay_0 kw_2_231 dX11_findHomes_26 rfl (rf_0_0 IM5 (gsz hsz (by decide))) (by decide) ?_
        refine gg_9_1 (n := 32) (z := 5) X (by decide) (gsz hsz (by decide)) lay_1 kw_2_108 dX11_findHomes_29 rfl (rf_1_1 IM5 (gsz hsz (by decide))) (by decide) ?_
        refine g_iload_n (n := 33) X 1 dX11_findHomes_32 rfl rfl rfl ?_
        obtain ⟨o57, ho57, ro57⟩ : ∃ o : Int, o = 31 + v4 ∧ (31 ≤ o ∧ o < 47) := ⟨_, rfl, by omega⟩
        refine g_aald6 (n := 34) (t := o57) X (by decide) (gsz hsz (by decide)) lay_5 (by omega) (by omega) (by decide) (gA5 IM5 hsz (by omega) (by omega) (by omega)) (by omega) dX11_findHomes_33 rfl ?_
        refine g_aload_n (n := 35) X 0 dX11_findHomes_34 rfl rfl rfl ?_
        refine gg_11_1 (n := 38) (z := 153) X (by decide) (gsz hsz (by decide)) lay_0 kw_2_232 dX11_findHomes_35 rfl (rf_0_1 IM5 (gsz hsz (by decide))) (by decide) ?_
        refine g_aload_n (n := 39) X 0 dX11_findHomes_38 rfl rfl rfl ?_
        refine gg_11_0 (n := 42) (z := 1) X (by decide) (gsz hsz (by decide)) lay_0 kw_2_231 dX11_findHomes_39 rfl (rf_0_0 IM5 (gsz hsz (by decide))) (by decide) ?_
        refine g_iload_n (n := 43) X 1 dX11_findHomes_42 rfl rfl rfl ?_
        refine g_aload_n (n := 44) X 0 dX11_findHomes_43 rfl rfl rfl ?_
        refine gg_11_0 (n := 47) (z := 1) X (by decide) (gsz hsz (by decide)) lay_0 kw_2_231 dX11_findHomes_44 rfl (rf_0_0 IM5 (gsz hsz (by decide))) (by decide) ?_
        obtain ⟨v58, hv58, rv58⟩ := gRd IM5 (by decide) (gsz hsz (by decide)) rc_1_15.1
        refine gg_9_15 (n := 50) (z := v58) X (by decide) (gsz hsz (by decide)) lay_1 kw_2_139 dX11_findHomes_47 rfl hv58 ?_
        refine g_ldc2 (n := 53) (z := (-1)) X dX11_findHomes_50 kw_3_159 (by decide +kernel) rfl ?_
        refine g_callVi (n := 56) (As := [gA n0 1, gJ v4, gJ v58, gV (-1)]) (rest := [gA n0 o57]) (cs1 := 0) (ss1 := 0) X (s_X1_whose v4 (by omega) v58 (by omega) (-1) (by omega) hsz IM5 CM5 ) okX1_whose kw_3_160 ⟨kw_3_161, kw_3_162⟩ ⟨rfl, rfl⟩ ⟨Nat.le_of_ble_eq_true rfl, Nat.le_of_ble_eq_true rfl⟩ rfl (by decide) (gsz hsz (by decide)) lay_153 rfl rfl (Nat.le_of_ble_eq_true rfl) ⟨Nat.le_of_ble_eq_true rfl, Nat.le_of_ble_eq_true rfl⟩ rfl rfl dX11_findHomes_53 rfl (fun v59 M60 P61 => ?_)
        obtain ⟨rfl, rv59⟩ := P61
        refine gp_6_15 (n := 59) X (Po0 ro57) (Posz hsz ro57) (lay2_P ro57) kw_1_225 dX11_findHomes_56 rfl ?_
        refine G.nm (fun M62 e63 => ?_)
        have IM62 : gI sz M62 := gI.set IM5 (rP_15 ro57).1 (by omega) e63
        have CM62 : gC sz M62 := gC.set CM5 (rP_15 ro57).2.1 e63
        refine g_iinc (n := 62) (w := v4 + 1) (L' := [(1, gJ (v4 + 1)), (0, gA n0 0)]) X 1 dX11_findHomes_59 rfl rfl (by decide) rfl rfl ?_
        refine g_goto (tgt := 14) X dX11_findHomes_62 (by decide) ?_
        refine G.sub (L' := [(0, gA n0 0), (1, gJ (v4 + 1))]) [1, 0] rfl ?_
        exact ih53 (v4 + 1) M62 (by omega) IM62 CM62 (gFr.s (gFr.c gFr.rf FM5 rfl) e63 (rP_15 ro57).2.2 rfl) (by omega)
  refine G.sub (L' := [(0, gA n0 0), (1, gJ 0)]) [1, 0] rfl ?_
  exact j6 _ 0 M2 (by omega) IM2 CM2 gFr.rf (Nat.lt_succ_self _)
theorem dX11_takenBy_0 : decode cX11_takenBy 0 = .ok (.iload_n 0, 1) := dc_26 (by decide +kernel)
theorem dX11_takenBy_1 : decode cX11_takenBy 1 = .ok (.ifCond .ne 7, 3) := dc_154 0 7 7 (by decide +kernel)
theorem dX11_takenBy_8 : decode cX11_takenBy 8 = .ok (.ldc2_w 334, 3) := dc_20 1 78 (by decide +kernel)
theorem dX11_takenBy_11 : decode cX11_takenBy 11 = .ok (.lreturn, 1) := dc_173 (by decide +kernel)
theorem dX11_takenBy_4 : decode cX11_takenBy 4 = .ok (.lconst 0, 1) := dc_9 (by decide +kernel)
theorem dX11_takenBy_5 : decode cX11_takenBy 5 = .ok (.goto 6, 3) := dc_167 0 6 6 (by decide +kernel)
abbrev R_X11_takenBy : Room := { frames := 0, cells := 0, slots := 0, locals := 0 }
set_option maxRecDepth 100000 in
set_option maxHeartbeats 4000000 in
theorem s_X11_takenBy {l : Launch} {n0 : Nat} {D : va_G} {cA : Nat → ClassId} {M : gM} (a : Int) (r_a : -2147483648 ≤ a ∧ a ≤ 2147483647) {sz : Nat} (hsz : 206 ≤ sz) (I : gI sz M) (C : gC sz M)   : Met l yX11_takenBy (gWsOf yX11_takenBy cX11_takenBy 1 (Option.some Jvm.ClassFile.FieldType.long)) R_X11_takenBy (gPc n0 D cA [gJ a] M sz) (gQl n0 D cA sz (fun z M1 => M = M1 ∧ (-1 ≤ z ∧ z ≤ 0))) 0 0 (fun q => n0 ≤ q) := by
  refine gMetL [gJ a] (by decide) (Nat.le_of_ble_eq_true rfl) ⟨rfl, rfl⟩ ?_
  intro p e s m args below meth cd Q X hq
  have X : gCx p s m args meth cd n0 D cA "ParishUnion" cX11_takenBy 1 := X
  show G p l e R_X11_takenBy s m args below meth cd n0 D cA 1 Q 0 0 M sz 0 [(0, gJ a)] []
  refine g_iload_n (n := 1) X 0 dX11_takenBy_0 rfl rfl rfl ?_
  refine g_if_ne (n := 4) (tgt := 8) X dX11_takenBy_1 (by decide) (by omega) rfl (fun c1 => ?_) (fun c1 => ?_)
  · refine g_ldc2 (n := 11) (z := (-1)) X dX11_takenBy_8 kw_3_159 (by decide +kernel) rfl ?_
    exact hq _ _ _ _ dX11_takenBy_11 ⟨rfl, by omega⟩
  · refine g_lconst (n := 5) (z := 0) X dX11_takenBy_4 (by decide +kernel) rfl ?_
    refine g_goto (tgt := 11) X dX11_takenBy_5 (by decide) ?_
    exact hq _ _ _ _ dX11_takenBy_11 ⟨rfl, by omega⟩
theorem dX11_stands_0 : decode cX11_stands 0 = .ok (.aload_n 0, 1) := dc_42 (by decide +kernel)
theorem dX11_stands_1 : decode cX11_stands 1 = .ok (.getfield 10, 3) := dc_180 0 10 (by decide +kernel)
theorem dX11_stands_4 : decode cX11_stands 4 = .ok (.getfield 247, 3) := dc_180 0 247 (by decide +kernel)
theorem dX11_stands_7 : decode cX11_stands 7 = .ok (.astore_n 3, 1) := dc_78 (by decide +kernel)
theorem dX11_stands_8 : decode cX11_stands 8 = .ok (.aload_n 0, 1) := dc_42 (by decide +kernel)
theorem dX11_stands_9 : decode cX11_stands 9 = .ok (.getfield 19, 3) := dc_180 0 19 (by decide +kernel)
theorem dX11_stands_12 : decode cX11_stands 12 = .ok (.aload_n 0, 1) := dc_42 (by decide +kernel)
theorem dX11_stands_13 : decode cX11_stands 13 = .ok (.getfield 10, 3) := dc_180 0 10 (by decide +kernel)
theorem dX11_stands_16 : decode cX11_stands 16 = .ok (.aload_n 3, 1) := dc_45 (by decide +kernel)
theorem dX11_stands_17 : decode cX11_stands 17 = .ok (.getfield 267, 3) := dc_180 1 11 (by decide +kernel)
theorem kw_1_63 : (Jvm.Cond.fieldLink "ParishUnion" (267 : Nat) "ParishUnion$Orders" "person" "[I") ∈ gT := gT_of (tb_1 _ (List.mem_of_getElem? (i := 63) rfl)) rfl
theorem dX11_stands_20 : decode cX11_stands 20 = .ok (.iload_n 1, 1) := dc_27 (by decide +kernel)
theorem dX11_stands_21 : decode cX11_stands 21 = .ok (.iaload, 1) := dc_46 (by decide +kernel)
theorem dX11_stands_22 : decode cX11_stands 22 = .ok (.aload_n 3, 1) := dc_45 (by decide +kernel)
theorem dX11_stands_23 : decode cX11_stands 23 = .ok (.getfield 429, 3) := dc_180 1 173 (by decide +kernel)
theorem kw_1_69 : (Jvm.Cond.fieldLink "ParishUnion" (429 : Nat) "ParishUnion$Orders" "week" "[I") ∈ gT := gT_of (tb_1 _ (List.mem_of_getElem? (i := 69) rfl)) rfl
theorem dX11_stands_26 : decode cX11_stands 26 = .ok (.iload_n 1, 1) := dc_27 (by decide +kernel)
theorem dX11_stands_27 : decode cX11_stands 27 = .ok (.iaload, 1) := dc_46 (by decide +kernel)
theorem dX11_stands_28 : decode cX11_stands 28 = .ok (.iload_n 2, 1) := dc_28 (by decide +kernel)
theorem dX11_stands_29 : decode cX11_stands 29 = .ok (.invokestatic 194, 3) := dc_184 0 194 (by decide +kernel)
theorem kw_3_156 : (Jvm.Cond.methodLink "ParishUnion" (194 : Nat) ({ cls := "ParishUnion", name := "takenBy", desc := "(I)J" } : Jvm.MethodName)) ∈ gT := gT_of (tb_3 _ (List.mem_of_getElem? (i := 156) rfl)) rfl
theorem kw_3_158 : (Jvm.Cond.code ({ cls := "ParishUnion", name := "takenBy", desc := "(I)J" } : Jvm.MethodName) prog_1_method_56_code (1 : Nat) (Option.some Jvm.ClassFile.FieldType.long)) ∈ gT := gT_of (tb_3 _ (List.mem_of_getElem? (i := 158) rfl)) rfl
theorem okX11_takenBy : gQok yX11_takenBy cX11_takenBy 1 (Option.some Jvm.ClassFile.FieldType.long) 1 := ⟨kw_3_158, kw_1_1, by decide +kernel, by decide +kernel, by decide +kernel⟩
theorem kw_3_157 : (Jvm.Cond.static ({ cls := "ParishUnion", name := "takenBy", desc := "(I)J" } : Jvm.MethodName)) ∈ gT := gT_of (tb_3 _ (List.mem_of_getElem? (i := 157) rfl)) rfl
theorem dX11_stands_32 : decode cX11_stands 32 = .ok (.invokevirtual 198, 3) := dc_182 0 198 (by decide +kernel)
theorem dX11_stands_35 : decode cX11_stands 35 = .ok (.aload_n 3, 1) := dc_45 (by decide +kernel)
theorem dX11_stands_36 : decode cX11_stands 36 = .ok (.getfield 276, 3) := dc_180 1 20 (by decide +kernel)
theorem kw_1_67 : (Jvm.Cond.fieldLink "ParishUnion" (276 : Nat) "ParishUnion$Orders" "to" "[I") ∈ gT := gT_of (tb_1 _ (List.mem_of_getElem? (i := 67) rfl)) rfl
theorem dX11_stands_39 : decode cX11_stands 39 = .ok (.iload_n 1, 1) := dc_27 (by decide +kernel)
theorem dX11_stands_40 : decode cX11_stands 40 = .ok (.iaload, 1) := dc_46 (by decide +kernel)
theorem dX11_stands_41 : decode cX11_stands 41 = .ok (.if_icmp .ne 7, 3) := dc_160 0 7 7 (by decide +kernel)
theorem dX11_stands_48 : decode cX11_stands 48 = .ok (.iconst 0, 1) := dc_3 (by decide +kernel)
theorem dX11_stands_49 : decode cX11_stands 49 = .ok (.ireturn, 1) := dc_172 (by decide +kernel)
theorem dX11_stands_44 : decode cX11_stands 44 = .ok (.iconst 1, 1) := dc_4 (by decide +kernel)
theorem dX11_stands_45 : decode cX11_stands 45 = .ok (.goto 4, 3) := dc_167 0 4 4 (by decide +kernel)
abbrev R_X11_stands : Room := { frames := 2, cells := 0, slots := 0, locals := 59 }
set_option maxRecDepth 100000 in
set_option maxHeartbeats 4000000 in
theorem s_X11_stands {l : Launch} {n0 : Nat} {D : va_G} {cA : Nat → ClassId} {M : gM} (a : Int) (r_a : 0 ≤ a ∧ a ≤ 19) (b : Int) (r_b : 0 ≤ b ∧ b ≤ 1) {sz : Nat} (hsz : 206 ≤ sz) (I : gI sz M) (C : gC sz M)   : Met l yX11_stands (gWsOf yX11_stands cX11_stands 4 (Option.some Jvm.ClassFile.FieldType.boolean)) R_X11_stands (gPc n0 D cA [gA n0 0, gJ a, gJ b] M sz) (gQi n0 D cA sz (fun z M1 => M = M1 ∧ (0 ≤ z ∧ z ≤ 1))) 0 0 (fun q => n0 ≤ q) := by
  refine gMetZ [gA n0 0, gJ a, gJ b] (by decide) (Nat.le_of_ble_eq_true rfl) ⟨rfl, rfl⟩ ?_
  intro p e s m args below meth cd Q X hq
  have X : gCx p s m args meth cd n0 D cA "ParishUnion" cX11_stands 4 := X
  show G p l e R_X11_stands s m args below meth cd n0 D cA 4 Q 0 0 M sz 0 [(0, gA n0 0), (1, gJ a), (2, gJ b)] []
  refine g_aload_n (n := 1) X 0 dX11_stands_0 rfl rfl rfl ?_
  refine gg_11_0 (n := 4) (z := 1) X (by decide) (gsz hsz (by decide)) lay_0 kw_2_231 dX11_stands_1 rfl (rf_0_0 I (gsz hsz (by decide))) (by decide) ?_
  refine gg_9_5 (n := 7) (z := 9) X (by decide) (gsz hsz (by decide)) lay_1 kw_2_117 dX11_stands_4 rfl (rf_1_5 I (gsz hsz (by decide))) (by decide) ?_
  refine g_astore_n (n := 8) (L' := [(3, gA n0 9), (0, gA n0 0), (1, gJ a), (2, gJ b)]) X dX11_stands_7 rfl (by decide) rfl rfl ?_
  refine g_aload_n (n := 9) X 1 dX11_stands_8 rfl rfl rfl ?_
  refine gg_11_1 (n := 12) (z := 153) X (by decide) (gsz hsz (by decide)) lay_0 kw_2_232 dX11_stands_9 rfl (rf_0_1 I (gsz hsz (by decide))) (by decide) ?_
  refine g_aload_n (n := 13) X 1 dX11_stands_12 rfl rfl rfl ?_
  refine gg_11_0 (n := 16) (z := 1) X (by decide) (gsz hsz (by decide)) lay_0 kw_2_231 dX11_stands_13 rfl (rf_0_0 I (gsz hsz (by decide))) (by decide) ?_
  refine g_aload_n (n := 17) X 0 dX11_stands_16 rfl rfl rfl ?_
  refine gg_4_0 (n := 20) (z := 10) X (by decide) (gsz hsz (by decide)) lay_9 kw_1_63 dX11_stands_17 rfl (rf_9_0 I (gsz hsz (by decide))) (by decide) ?_
  refine g_iload_n (n := 21) X 2 dX11_stands_20 rfl rfl rfl ?_
  obtain ⟨v1, hv1, rv1⟩ := gRd I (by decide) (gsz hsz (by decide)) (ra_10 a).1
  refine g_iald2 (n := 22) (v := v1) X (by decide) (gsz hsz (by decide)) lay_10 (by omega) (by omega) (by decide) dX11_stands_21 rfl hv1 ?_
  refine g_aload_n (n := 23) X 0 dX11_stands_22 rfl rfl rfl ?_
  refine gg_4_3 (n := 26) (z := 13) X (by decide) (gsz hsz (by decide)) lay_9 kw_1_69 dX11_stands_23 rfl (rf_9_3 I (gsz hsz (by decide))) (by decide) ?_
  refine g_iload_n (n := 27) X 2 dX11_stands_26 rfl rfl rfl ?_
  obtain ⟨v2, hv2, rv2⟩ := gRd I (by decide) (gsz hsz (by decide)) (ra_13 a).1
  refine g_iald2 (n := 28) (v := v2) X (by decide) (gsz hsz (by decide)) lay_13 (by omega) (by omega) (by decide) dX11_stands_27 rfl hv2 ?_
  refine g_iload_n (n := 29) X 3 dX11_stands_28 rfl rfl rfl ?_
  refine g_callSl (n := 32) (As := [gJ b]) (rest := [gJ v2, gJ v1, gA n0 1, gA n0 153]) (cs1 := 0) (ss1 := 0) X (s_X11_takenBy b (by omega) hsz I C ) okX11_takenBy kw_3_156 kw_3_157 ⟨rfl, rfl⟩ ⟨Nat.le_of_ble_eq_true rfl, Nat.le_of_ble_eq_true rfl⟩ rfl rfl (Nat.le_of_ble_eq_true rfl) ⟨Nat.le_of_ble_eq_true rfl, Nat.le_of_ble_eq_true rfl⟩ rfl rfl dX11_stands_29 rfl (fun v3 M4 P5 => ?_)
  obtain ⟨rfl, rv3⟩ := P5
  refine g_callVi (n := 35) (As := [gA n0 1, gJ v1, gJ v2, gV v3]) (rest := []) (cs1 := 0) (ss1 := 0) X (s_X1_whose v1 (by omega) v2 (by omega) v3 (by omega) hsz I C ) okX1_whose kw_3_160 ⟨kw_3_161, kw_3_162⟩ ⟨rfl, rfl⟩ ⟨Nat.le_of_ble_eq_true rfl, Nat.le_of_ble_eq_true rfl⟩ rfl (by decide) (gsz hsz (by decide)) lay_153 rfl rfl (Nat.le_of_ble_eq_true rfl) ⟨Nat.le_of_ble_eq_true rfl, Nat.le_of_ble_eq_true rfl⟩ rfl rfl dX11_stands_32 rfl (fun v6 M7 P8 => ?_)
  obtain ⟨rfl, rv6⟩ := P8
  refine g_aload_n (n := 36) X 0 dX11_stands_35 rfl rfl rfl ?_
  refine gg_4_2 (n := 39) (z := 12) X (by decide) (gsz hsz (by decide)) lay_9 kw_1_67 dX11_stands_36 rfl (rf_9_2 I (gsz hsz (by decide))) (by decide) ?_
  refine g_iload_n (n := 40) X 2 dX11_stands_39 rfl rfl rfl ?_
  obtain ⟨v9, hv9, rv9⟩ := gRd I (by decide) (gsz hsz (by decide)) (ra_12 a).1
  refine g_iald2 (n := 41) (v := v9) X (by decide) (gsz hsz (by decide)) lay_12 (by omega) (by omega) (by decide) dX11_stands_40 rfl hv9 ?_
  refine g_icmp_ne (n := 44) (tgt := 48) X dX11_stands_41 (by decide) (by omega) (by omega) rfl (fun c10 => ?_) (fun c10 => ?_)
  · refine g_iconst (n := 49) X dX11_stands_48 rfl ?_
    exact hq _ _ _ _ dX11_stands_49 (by omega) ⟨rfl, by omega⟩
  · refine g_iconst (n := 45) X dX11_stands_44 rfl ?_
    refine g_goto (tgt := 49) X dX11_stands_45 (by decide) ?_
    exact hq _ _ _ _ dX11_stands_49 (by omega) ⟨rfl, by omega⟩
theorem dX11_greatestRest_0 : decode cX11_greatestRest 0 = .ok (.iconst 0, 1) := dc_3 (by decide +kernel)
theorem dX11_greatestRest_1 : decode cX11_greatestRest 1 = .ok (.istore_n 1, 1) := dc_60 (by decide +kernel)
theorem dX11_greatestRest_2 : decode cX11_greatestRest 2 = .ok (.iconst 1, 1) := dc_4 (by decide +kernel)
theorem dX11_greatestRest_3 : decode cX11_greatestRest 3 = .ok (.istore_n 2, 1) := dc_61 (by decide +kernel)
theorem dX11_greatestRest_4 : decode cX11_greatestRest 4 = .ok (.iload_n 2, 1) := dc_28 (by decide +kernel)
theorem dX11_greatestRest_5 : decode cX11_greatestRest 5 = .ok (.bipush 6, 2) := dc_16 6 6 (by decide +kernel)
theorem dX11_greatestRest_7 : decode cX11_greatestRest 7 = .ok (.if_icmp .ge 27, 3) := dc_162 0 27 27 (by decide +kernel)
theorem dX11_greatestRest_10 : decode cX11_greatestRest 10 = .ok (.aload_n 0, 1) := dc_42 (by decide +kernel)
theorem dX11_greatestRest_11 : decode cX11_greatestRest 11 = .ok (.getfield 47, 3) := dc_180 0 47 (by decide +kernel)
theorem kw_2_237 : (Jvm.Cond.fieldLink "ParishUnion" (47 : Nat) "ParishUnion" "rests" "[J") ∈ gT := gT_of (tb_2 _ (List.mem_of_getElem? (i := 237) rfl)) rfl
theorem rf_0_6 {sz : Nat} {M : gM} (I : gI sz M) (h : (0 : Int) < (sz : Int)) : M 0 6 = 171 + 1 := gI.rf I (by decide) h (by decide +kernel)
theorem dX11_greatestRest_14 : decode cX11_greatestRest 14 = .ok (.iload_n 2, 1) := dc_28 (by decide +kernel)
theorem dX11_greatestRest_15 : decode cX11_greatestRest 15 = .ok (.laload, 1) := dc_47 (by decide +kernel)
theorem ra_171 (k : Int) : gRg 171 k = (-9223372036854775808, 9223372036854775807) ∧ gCr 171 k = false ∧ gG 171 k = 32 := ⟨rfl, rfl, rfl⟩
theorem dX11_greatestRest_16 : decode cX11_greatestRest 16 = .ok (.aload_n 0, 1) := dc_42 (by decide +kernel)
theorem dX11_greatestRest_17 : decode cX11_greatestRest 17 = .ok (.getfield 47, 3) := dc_180 0 47 (by decide +kernel)
theorem dX11_greatestRest_20 : decode cX11_greatestRest 20 = .ok (.iload_n 1, 1) := dc_27 (by decide +kernel)
theorem dX11_greatestRest_21 : decode cX11_greatestRest 21 = .ok (.laload, 1) := dc_47 (by decide +kernel)
theorem dX11_greatestRest_22 : decode cX11_greatestRest 22 = .ok (.lcmp, 1) := dc_148 (by decide +kernel)
theorem dX11_greatestRest_23 : decode cX11_greatestRest 23 = .ok (.ifCond .le 5, 3) := dc_158 0 5 5 (by decide +kernel)
theorem dX11_greatestRest_28 : decode cX11_greatestRest 28 = .ok (.iinc 2 1, 3) := dc_132 2 1 1 (by decide +kernel)
theorem dX11_greatestRest_31 : decode cX11_greatestRest 31 = .ok (.goto (-27), 3) := dc_167 255 229 (-27) (by decide +kernel)
theorem dX11_greatestRest_26 : decode cX11_greatestRest 26 = .ok (.iload_n 2, 1) := dc_28 (by decide +kernel)
theorem dX11_greatestRest_27 : decode cX11_greatestRest 27 = .ok (.istore_n 1, 1) := dc_60 (by decide +kernel)
theorem dX11_greatestRest_34 : decode cX11_greatestRest 34 = .ok (.iload_n 1, 1) := dc_27 (by decide +kernel)
theorem dX11_greatestRest_35 : decode cX11_greatestRest 35 = .ok (.ireturn, 1) := dc_172 (by decide +kernel)
abbrev R_X11_greatestRest : Room := { frames := 0, cells := 0, slots := 0, locals := 0 }
set_option maxRecDepth 100000 in
set_option maxHeartbeats 4000000 in
theorem s_X11_greatestRest {l : Launch} {n0 : Nat} {D : va_G} {cA : Nat → ClassId} {M : gM}  {sz : Nat} (hsz : 206 ≤ sz) (I : gI sz M) (C : gC sz M)   : Met l yX11_greatestRest (gWsOf yX11_greatestRest cX11_greatestRest 3 (Option.some Jvm.ClassFile.FieldType.int)) R_X11_greatestRest (gPc n0 D cA [gA n0 0] M sz) (gQi n0 D cA sz (fun z M1 => M = M1 ∧ (0 ≤ z ∧ z ≤ 5))) 0 0 (fun q => n0 ≤ q) := by
  refine gMetI [gA n0 0] (by decide) (Nat.le_of_ble_eq_true rfl) ⟨rfl, rfl⟩ ?_
  intro p e s m args below meth cd Q X hq
  have X : gCx p s m args meth cd n0 D cA "ParishUnion" cX11_greatestRest 3 := X
  show G p l e R_X11_greatestRest s m args below meth cd n0 D cA 3 Q 0 0 M sz 0 [(0, gA n0 0)] []
  refine g_iconst (n := 1) X dX11_greatestRest_0 rfl ?_
  refine g_istore_n (n := 2) (L' := [(1, gJ 0), (0, gA n0 0)]) X dX11_greatestRest_1 rfl (by decide) rfl rfl ?_
  refine g_iconst (n := 3) X dX11_greatestRest_2 rfl ?_
  refine g_istore_n (n := 4) (L' := [(2, gJ 1), (1, gJ 0), (0, gA n0 0)]) X dX11_greatestRest_3 rfl (by decide) rfl rfl ?_
  have j4 : ∀ (N30 : Nat) (v1 v2 : Int) , (0 ≤ v1 ∧ v1 ≤ 5) → (1 ≤ v2 ∧ v2 ≤ 6) → (6 - v2).toNat < N30 → G p l e R_X11_greatestRest s m args below meth cd n0 D cA 3 Q 0 0 M sz 4 [(0, gA n0 0), (1, gJ v1), (2, gJ v2)] [] := by
    intro N30; induction N30 with
    | zero => intro v1 v2 rv1 rv2 hm32; exfalso; omega
    | succ N30 ih31 =>
      intro v1 v2 rv1 rv2 hm32
      refine g_iload_n (n := 5) X 2 dX11_greatestRest_4 rfl rfl rfl ?_
      refine g_bipush (n := 7) X dX11_greatestRest_5 (by decide +kernel) rfl ?_
      refine g_icmp_ge (n := 10) (tgt := 34) X dX11_greatestRest_7 (by decide) (by omega) (by omega) rfl (fun c33 => ?_) (fun c33 => ?_)
      · refine g_iload_n (n := 35) X 1 dX11_greatestRest_34 rfl rfl rfl ?_
        exact hq _ _ _ _ dX11_greatestRest_35 ⟨rfl, by omega⟩
      · refine g_aload_n (n := 11) X 0 dX11_greatestRest_10 rfl rfl rfl ?_
        refine gg_11_6 (n := 14) (z := 171) X (by decide) (gsz hsz (by decide)) lay_0 kw_2_237 dX11_greatestRest_11 rfl (rf_0_6 I (gsz hsz (by decide))) (by decide) ?_
        refine g_iload_n (n := 15) X 2 dX11_greatestRest_14 rfl rfl rfl ?_
        obtain ⟨v34, hv34, rv34⟩ := gRd I (by decide) (gsz hsz (by decide)) (ra_171 v2).1
        refine g_lald2 (n := 16) (v := v34) X (by decide) (gsz hsz (by decide)) lay_171 (by omega) (by omega) (by decide) dX11_greatestRest_15 rfl hv34 ?_
        refine g_aload_n (n := 17) X 0 dX11_greatestRest_16 rfl rfl rfl ?_
        refine gg_11_6 (n := 20) (z := 171) X (by decide) (gsz hsz (by decide)) lay_0 kw_2_237 dX11_greatestRest_17 rfl (rf_0_6 I (gsz hsz (by decide))) (by decide) ?_
        refine g_iload_n (n := 21) X 1 dX11_greatestRest_20 rfl rfl rfl ?_
        obtain ⟨v35, hv35, rv35⟩ := gRd I (by decide) (gsz hsz (by decide)) (ra_171 v1).1
        refine g_lald2 (n := 22) (v := v35) X (by decide) (gsz hsz (by decide)) lay_171 (by omega) (by omega) (by decide) dX11_greatestRest_21 rfl hv35 ?_
        refine g_lcmp2 (n := 23) X dX11_greatestRest_22 (by omega) (by omega) rfl (fun v36 xv36 rv36 => ?_)
        refine g_if_le (n := 26) (tgt := 28) X dX11_greatestRest_23 (by decide) (by omega) rfl (fun c37 => ?_) (fun c37 => ?_)
        · refine g_iinc (n := 31) (w := v2 + 1) (L' := [(2, gJ (v2 + 1)), (0, gA n0 0), (1, gJ v1)]) X 2 dX11_greatestRest_28 rfl rfl (by decide) rfl rfl ?_
          refine g_goto (tgt := 4) X dX11_greatestRest_31 (by decide) ?_
          refine G.sub (L' := [(0, gA n0 0), (1, gJ v1), (2, gJ (v2 + 1))]) [1, 2, 0] rfl ?_
          exact ih31 v1 (v2 + 1) (by omega) (by omega) (by omega)
        · refine g_iload_n (n := 27) X 2 dX11_greatestRest_26 rfl rfl rfl ?_
          refine g_istore_n (n := 28) (L' := [(1, gJ v2), (0, gA n0 0), (2, gJ v2)]) X dX11_greatestRest_27 rfl (by decide) rfl rfl ?_
          refine g_iinc (n := 31) (w := v2 + 1) (L' := [(2, gJ (v2 + 1)), (1, gJ v2), (0, gA n0 0)]) X 2 dX11_greatestRest_28 rfl rfl (by decide) rfl rfl ?_
          refine g_goto (tgt := 4) X dX11_greatestRest_31 (by decide) ?_
          refine G.sub (L' := [(0, gA n0 0), (1, gJ v2), (2, gJ (v2 + 1))]) [2, 1, 0] rfl ?_
          exact ih31 v2 (v2 + 1) (by omega) (by omega) (by omega)
  refine G.sub (L' := [(0, gA n0 0), (1, gJ 0), (2, gJ 1)]) [2, 1, 0] rfl ?_
  exact j4 _ 0 1 (by omega) (by omega) (Nat.lt_succ_self _)
theorem dX11_weigh_0 : decode cX11_weigh 0 = .ok (.aload_n 0, 1) := dc_42 (by decide +kernel)
theorem dX11_weigh_1 : decode cX11_weigh 1 = .ok (.getfield 10, 3) := dc_180 0 10 (by decide +kernel)
theorem dX11_weigh_4 : decode cX11_weigh 4 = .ok (.bipush 7, 2) := dc_16 7 7 (by decide +kernel)
theorem dX11_weigh_6 : decode cX11_weigh 6 = .ok (.iload_n 1, 1) := dc_27 (by decide +kernel)
theorem dX11_weigh_7 : decode cX11_weigh 7 = .ok (.invokevirtual 225, 3) := dc_182 0 225 (by decide +kernel)
theorem kw_4_91 : (Jvm.Cond.methodLink "ParishUnion" (225 : Nat) ({ cls := "ParishUnion$Union", name := "law", desc := "(II)I" } : Jvm.MethodName)) ∈ gT := gT_of (tb_4 _ (List.mem_of_getElem? (i := 91) rfl)) rfl
theorem dX11_weigh_10 : decode cX11_weigh 10 = .ok (.istore_n 2, 1) := dc_61 (by decide +kernel)
theorem dX11_weigh_11 : decode cX11_weigh 11 = .ok (.iconst 0, 1) := dc_3 (by decide +kernel)
theorem dX11_weigh_12 : decode cX11_weigh 12 = .ok (.istore_n 3, 1) := dc_62 (by decide +kernel)
theorem dX11_weigh_13 : decode cX11_weigh 13 = .ok (.iload_n 3, 1) := dc_29 (by decide +kernel)
theorem dX11_weigh_14 : decode cX11_weigh 14 = .ok (.bipush 6, 2) := dc_16 6 6 (by decide +kernel)
theorem dX11_weigh_16 : decode cX11_weigh 16 = .ok (.if_icmp .ge 51, 3) := dc_162 0 51 51 (by decide +kernel)
theorem dX11_weigh_19 : decode cX11_weigh 19 = .ok (.iload_n 2, 1) := dc_28 (by decide +kernel)
theorem dX11_weigh_20 : decode cX11_weigh 20 = .ok (.ifCond .ne 25, 3) := dc_154 0 25 25 (by decide +kernel)
theorem dX11_weigh_45 : decode cX11_weigh 45 = .ok (.aload_n 0, 1) := dc_42 (by decide +kernel)
theorem dX11_weigh_46 : decode cX11_weigh 46 = .ok (.getfield 43, 3) := dc_180 0 43 (by decide +kernel)
theorem kw_2_236 : (Jvm.Cond.fieldLink "ParishUnion" (43 : Nat) "ParishUnion" "weights" "[J") ∈ gT := gT_of (tb_2 _ (List.mem_of_getElem? (i := 236) rfl)) rfl
theorem rf_0_5 {sz : Nat} {M : gM} (I : gI sz M) (h : (0 : Int) < (sz : Int)) : M 0 5 = 170 + 1 := gI.rf I (by decide) h (by decide +kernel)
theorem dX11_weigh_49 : decode cX11_weigh 49 = .ok (.iload_n 3, 1) := dc_29 (by decide +kernel)
theorem dX11_weigh_50 : decode cX11_weigh 50 = .ok (.iload_n 2, 1) := dc_28 (by decide +kernel)
theorem dX11_weigh_51 : decode cX11_weigh 51 = .ok (.iconst 1, 1) := dc_4 (by decide +kernel)
theorem dX11_weigh_52 : decode cX11_weigh 52 = .ok (.if_icmp .ne 7, 3) := dc_160 0 7 7 (by decide +kernel)
theorem dX11_weigh_59 : decode cX11_weigh 59 = .ok (.lconst 1, 1) := dc_10 (by decide +kernel)
theorem dX11_weigh_60 : decode cX11_weigh 60 = .ok (.lastore, 1) := dc_80 (by decide +kernel)
theorem ra_170 (k : Int) : gRg 170 k = (-9223372036854775808, 9223372036854775807) ∧ gCr 170 k = false ∧ gG 170 k = 32 := ⟨rfl, rfl, rfl⟩
theorem dX11_weigh_61 : decode cX11_weigh 61 = .ok (.iinc 3 1, 3) := dc_132 3 1 1 (by decide +kernel)
theorem dX11_weigh_64 : decode cX11_weigh 64 = .ok (.goto (-51), 3) := dc_167 255 205 (-51) (by decide +kernel)
theorem dX11_weigh_55 : decode cX11_weigh 55 = .ok (.lconst 0, 1) := dc_9 (by decide +kernel)
theorem dX11_weigh_56 : decode cX11_weigh 56 = .ok (.goto 4, 3) := dc_167 0 4 4 (by decide +kernel)
theorem dX11_weigh_23 : decode cX11_weigh 23 = .ok (.aload_n 0, 1) := dc_42 (by decide +kernel)
theorem dX11_weigh_24 : decode cX11_weigh 24 = .ok (.getfield 43, 3) := dc_180 0 43 (by decide +kernel)
theorem dX11_weigh_27 : decode cX11_weigh 27 = .ok (.iload_n 3, 1) := dc_29 (by decide +kernel)
theorem dX11_weigh_28 : decode cX11_weigh 28 = .ok (.aload_n 0, 1) := dc_42 (by decide +kernel)
theorem dX11_weigh_29 : decode cX11_weigh 29 = .ok (.getfield 10, 3) := dc_180 0 10 (by decide +kernel)
theorem dX11_weigh_32 : decode cX11_weigh 32 = .ok (.getfield 66, 3) := dc_180 0 66 (by decide +kernel)
theorem kw_2_105 : (Jvm.Cond.fieldLink "ParishUnion" (66 : Nat) "ParishUnion$Union" "land" "LParishUnion$Land;") ∈ gT := gT_of (tb_2 _ (List.mem_of_getElem? (i := 105) rfl)) rfl
theorem dX11_weigh_35 : decode cX11_weigh 35 = .ok (.getfield 70, 3) := dc_180 0 70 (by decide +kernel)
theorem kw_1_42 : (Jvm.Cond.fieldLink "ParishUnion" (70 : Nat) "ParishUnion$Land" "rents" "[I") ∈ gT := gT_of (tb_1 _ (List.mem_of_getElem? (i := 42) rfl)) rfl
theorem rf_2_0 {sz : Nat} {M : gM} (I : gI sz M) (h : (2 : Int) < (sz : Int)) : M 2 0 = 3 + 1 := gI.rf I (by decide) h (by decide +kernel)
theorem dX11_weigh_38 : decode cX11_weigh 38 = .ok (.iload_n 3, 1) := dc_29 (by decide +kernel)
theorem dX11_weigh_39 : decode cX11_weigh 39 = .ok (.iaload, 1) := dc_46 (by decide +kernel)
theorem ra_3 (k : Int) : gRg 3 k = (0, 9999) ∧ gCr 3 k = false ∧ gG 3 k = 1 := ⟨rfl, rfl, rfl⟩
theorem dX11_weigh_40 : decode cX11_weigh 40 = .ok (.i2l, 1) := dc_133 (by decide +kernel)
theorem dX11_weigh_41 : decode cX11_weigh 41 = .ok (.lastore, 1) := dc_80 (by decide +kernel)
theorem dX11_weigh_42 : decode cX11_weigh 42 = .ok (.goto 19, 3) := dc_167 0 19 19 (by decide +kernel)
theorem dX11_weigh_67 : decode cX11_weigh 67 = .ok (.iload_n 2, 1) := dc_28 (by decide +kernel)
theorem dX11_weigh_68 : decode cX11_weigh 68 = .ok (.iconst 1, 1) := dc_4 (by decide +kernel)
theorem dX11_weigh_69 : decode cX11_weigh 69 = .ok (.if_icmp .eq 4, 3) := dc_159 0 4 4 (by decide +kernel)
theorem dX11_weigh_73 : decode cX11_weigh 73 = .ok (.iconst 0, 1) := dc_3 (by decide +kernel)
theorem dX11_weigh_74 : decode cX11_weigh 74 = .ok (.istore_n 3, 1) := dc_62 (by decide +kernel)
theorem dX11_weigh_75 : decode cX11_weigh 75 = .ok (.iload_n 3, 1) := dc_29 (by decide +kernel)
theorem dX11_weigh_76 : decode cX11_weigh 76 = .ok (.aload_n 0, 1) := dc_42 (by decide +kernel)
theorem dX11_weigh_77 : decode cX11_weigh 77 = .ok (.getfield 10, 3) := dc_180 0 10 (by decide +kernel)
theorem dX11_weigh_80 : decode cX11_weigh 80 = .ok (.getfield 98, 3) := dc_180 0 98 (by decide +kernel)
theorem dX11_weigh_83 : decode cX11_weigh 83 = .ok (.if_icmp .ge 58, 3) := dc_162 0 58 58 (by decide +kernel)
theorem dX11_weigh_141 : decode cX11_weigh 141 = .ok (.return_, 1) := dc_177 (by decide +kernel)
theorem dX11_weigh_86 : decode cX11_weigh 86 = .ok (.aload_n 0, 1) := dc_42 (by decide +kernel)
theorem dX11_weigh_87 : decode cX11_weigh 87 = .ok (.getfield 10, 3) := dc_180 0 10 (by decide +kernel)
theorem dX11_weigh_90 : decode cX11_weigh 90 = .ok (.getfield 307, 3) := dc_180 1 51 (by decide +kernel)
theorem kw_2_121 : (Jvm.Cond.fieldLink "ParishUnion" (307 : Nat) "ParishUnion$Union" "past" "LParishUnion$Past;") ∈ gT := gT_of (tb_2 _ (List.mem_of_getElem? (i := 121) rfl)) rfl
theorem dX11_weigh_93 : decode cX11_weigh 93 = .ok (.iload_n 1, 1) := dc_27 (by decide +kernel)
theorem dX11_weigh_94 : decode cX11_weigh 94 = .ok (.iload_n 3, 1) := dc_29 (by decide +kernel)
theorem dX11_weigh_95 : decode cX11_weigh 95 = .ok (.invokevirtual 455, 3) := dc_182 1 199 (by decide +kernel)
theorem kw_5_63 : (Jvm.Cond.methodLink "ParishUnion" (455 : Nat) ({ cls := "ParishUnion$Past", name := "wasHelped", desc := "(II)Z" } : Jvm.MethodName)) ∈ gT := gT_of (tb_5 _ (List.mem_of_getElem? (i := 63) rfl)) rfl
theorem kw_5_66 : (Jvm.Cond.code ({ cls := "ParishUnion$Past", name := "wasHelped", desc := "(II)Z" } : Jvm.MethodName) prog_7_method_14_code (3 : Nat) (Option.some Jvm.ClassFile.FieldType.boolean)) ∈ gT := gT_of (tb_5 _ (List.mem_of_getElem? (i := 66) rfl)) rfl
theorem okX5_wasHelped : gQok yX5_wasHelped cX5_wasHelped 3 (Option.some Jvm.ClassFile.FieldType.boolean) 2 := ⟨kw_5_66, kw_1_6, by decide +kernel, by decide +kernel, by decide +kernel⟩
theorem kw_5_64 : (Jvm.Cond.instanceMethod ({ cls := "ParishUnion$Past", name := "wasHelped", desc := "(II)Z" } : Jvm.MethodName)) ∈ gT := gT_of (tb_5 _ (List.mem_of_getElem? (i := 64) rfl)) rfl
theorem kw_5_65 : (Jvm.Cond.selects "ParishUnion$Past" ({ cls := "ParishUnion$Past", name := "wasHelped", desc := "(II)Z" } : Jvm.MethodName) ({ cls := "ParishUnion$Past", name := "wasHelped", desc := "(II)Z" } : Jvm.MethodName)) ∈ gT := gT_of (tb_5 _ (List.mem_of_getElem? (i := 65) rfl)) rfl
theorem dX11_weigh_98 : decode cX11_weigh 98 = .ok (.ifCond .eq 37, 3) := dc_153 0 37 37 (by decide +kernel)
theorem dX11_weigh_135 : decode cX11_weigh 135 = .ok (.iinc 3 1, 3) := dc_132 3 1 1 (by decide +kernel)
theorem dX11_weigh_138 : decode cX11_weigh 138 = .ok (.goto (-63), 3) := dc_167 255 193 (-63) (by decide +kernel)
theorem dX11_weigh_101 : decode cX11_weigh 101 = .ok (.aload_n 0, 1) := dc_42 (by decide +kernel)
theorem dX11_weigh_102 : decode cX11_weigh 102 = .ok (.getfield 19, 3) := dc_180 0 19 (by decide +kernel)
theorem dX11_weigh_105 : decode cX11_weigh 105 = .ok (.aload_n 0, 1) := dc_42 (by decide +kernel)
theorem dX11_weigh_106 : decode cX11_weigh 106 = .ok (.getfield 10, 3) := dc_180 0 10 (by decide +kernel)
theorem dX11_weigh_109 : decode cX11_weigh 109 = .ok (.iload_n 3, 1) := dc_29 (by decide +kernel)
theorem dX11_weigh_110 : decode cX11_weigh 110 = .ok (.iload_n 1, 1) := dc_27 (by decide +kernel)
theorem dX11_weigh_111 : decode cX11_weigh 111 = .ok (.ldc2_w 334, 3) := dc_20 1 78 (by decide +kernel)
theorem dX11_weigh_114 : decode cX11_weigh 114 = .ok (.invokevirtual 198, 3) := dc_182 0 198 (by decide +kernel)
theorem dX11_weigh_117 : decode cX11_weigh 117 = .ok (.istore 4, 2) := dc_54 4 (by decide +kernel)
theorem dX11_weigh_119 : decode cX11_weigh 119 = .ok (.iload 4, 2) := dc_21 4 (by decide +kernel)
theorem dX11_weigh_121 : decode cX11_weigh 121 = .ok (.ifCond .lt 14, 3) := dc_155 0 14 14 (by decide +kernel)
theorem dX11_weigh_124 : decode cX11_weigh 124 = .ok (.aload_n 0, 1) := dc_42 (by decide +kernel)
theorem dX11_weigh_125 : decode cX11_weigh 125 = .ok (.getfield 43, 3) := dc_180 0 43 (by decide +kernel)
theorem dX11_weigh_128 : decode cX11_weigh 128 = .ok (.iload 4, 2) := dc_21 4 (by decide +kernel)
theorem dX11_weigh_130 : decode cX11_weigh 130 = .ok (.dup2, 1) := dc_92 (by decide +kernel)
theorem dX11_weigh_131 : decode cX11_weigh 131 = .ok (.laload, 1) := dc_47 (by decide +kernel)
theorem dX11_weigh_132 : decode cX11_weigh 132 = .ok (.lconst 1, 1) := dc_10 (by decide +kernel)
theorem dX11_weigh_133 : decode cX11_weigh 133 = .ok (.ladd, 1) := dc_97 (by decide +kernel)
theorem dX11_weigh_134 : decode cX11_weigh 134 = .ok (.lastore, 1) := dc_80 (by decide +kernel)
theorem dX11_weigh_72 : decode cX11_weigh 72 = .ok (.return_, 1) := dc_177 (by decide +kernel)
abbrev R_X11_weigh : Room := { frames := 4, cells := 0, slots := 0, locals := 88 }
set_option maxRecDepth 100000 in
set_option maxHeartbeats 4000000 in
theorem s_X11_weigh {l : Launch} {n0 : Nat} {D : va_G} {cA : Nat → ClassId} {M : gM} (a : Int) (r_a : 0 ≤ a ∧ a ≤ 299) {sz : Nat} (hsz : 206 ≤ sz) (I : gI sz M) (C : gC sz M)   : Met l yX11_weigh (gWsOf yX11_weigh cX11_weigh 5 (Option.none : Option Jvm.ClassFile.FieldType)) R_X11_weigh (gPc n0 D cA [gA n0 0, gJ a] M sz) (gQv n0 D cA sz (fun M1 => gI sz M1 ∧ gC sz M1 ∧ gFr 4294967296 M M1)) 0 0 (fun q => n0 ≤ q) := by
  refine gMetV [gA n0 0, gJ a] (by decide) (Nat.le_of_ble_eq_true rfl) ⟨rfl, rfl⟩ ?_
  intro p e s m args below meth cd Q X hq
  have X : gCx p s m args meth cd n0 D cA "ParishUnion" cX11_weigh 5 := X
  show G p l e R_X11_weigh s m args below meth cd n0 D cA 5 Q 0 0 M sz 0 [(0, gA n0 0), (1, gJ a)] []
  refine g_aload_n (n := 1) X 0 dX11_weigh_0 rfl rfl rfl ?_
  refine gg_11_0 (n := 4) (z := 1) X (by decide) (gsz hsz (by decide)) lay_0 kw_2_231 dX11_weigh_1 rfl (rf_0_0 I (gsz hsz (by decide))) (by decide) ?_
  refine g_bipush (n := 6) X dX11_weigh_4 (by decide +kernel) rfl ?_
  refine g_iload_n (n := 7) X 1 dX11_weigh_6 rfl rfl rfl ?_
  refine g_callVi (n := 10) (As := [gJ 7, gJ a]) (rest := []) (cs1 := 0) (ss1 := 0) X (s_X9_law 7 (by omega) a (by omega) hsz I C ) okX9_law kw_4_91 ⟨kw_3_138, kw_3_139⟩ ⟨rfl, rfl⟩ ⟨Nat.le_of_ble_eq_true rfl, Nat.le_of_ble_eq_true rfl⟩ rfl (by decide) (gsz hsz (by decide)) lay_1 rfl rfl (Nat.le_of_ble_eq_true rfl) ⟨Nat.le_of_ble_eq_true rfl, Nat.le_of_ble_eq_true rfl⟩ rfl rfl dX11_weigh_7 rfl (fun v1 M2 P3 => ?_)
  obtain ⟨rfl, rv1⟩ := P3
  refine g_istore_n (n := 11) (L' := [(2, gJ v1), (0, gA n0 0), (1, gJ a)]) X dX11_weigh_10 rfl (by decide) rfl rfl ?_
  refine g_iconst (n := 12) X dX11_weigh_11 rfl ?_
  refine g_istore_n (n := 13) (L' := [(3, gJ 0), (2, gJ v1), (0, gA n0 0), (1, gJ a)]) X dX11_weigh_12 rfl (by decide) rfl rfl ?_
  have j6 : ∀ (N213 : Nat) (v4 : Int) (M5 : gM) , (0 ≤ v4 ∧ v4 ≤ 6) → gI sz M5 → gC sz M5 → gFr 4294967296 M M5 → (6 - v4).toNat < N213 → G p l e R_X11_weigh s m args below meth cd n0 D cA 5 Q 0 0 M5 sz 13 [(0, gA n0 0), (1, gJ a), (2, gJ v1), (3, gJ v4)] [] := by
    intro N213; induction N213 with
    | zero => intro v4 M5 rv4 IM5 CM5 FM5 hm215; exfalso; omega
    | succ N213 ih214 =>
      intro v4 M5 rv4 IM5 CM5 FM5 hm215
      refine g_iload_n (n := 14) X 3 dX11_weigh_13 rfl rfl rfl ?_
      refine g_bipush (n := 16) X dX11_weigh_14 (by decide +kernel) rfl ?_
      refine g_icmp_ge (n := 19) (tgt := 67) X dX11_weigh_16 (by decide) (by omega) (by omega) rfl (fun c216 => ?_) (fun c216 => ?_)
      · refine g_iload_n (n := 68) X 2 dX11_weigh_67 rfl rfl rfl ?_
        refine g_iconst (n := 69) X dX11_weigh_68 rfl ?_
        refine g_icmp_eq (n := 72) (tgt := 73) X dX11_weigh_69 (by decide) (by omega) (by omega) rfl (fun c226 => ?_) (fun c226 => ?_)
        · refine g_iconst (n := 74) X dX11_weigh_73 rfl ?_
          refine g_istore_n (n := 75) (L' := [(3, gJ 0), (0, gA n0 0), (1, gJ a), (2, gJ v1)]) X dX11_weigh_74 rfl (by decide) rfl rfl ?_
          have j229 : ∀ (N356 : Nat) (v227 : Int) (M228 : gM) , (0 ≤ v227 ∧ v227 ≤ 16) → gI sz M228 → gC sz M228 → gFr 4294967296 M5 M228 → (16 - v227).toNat < N356 → G p l e R_X11_weigh s m args below meth cd n0 D cA 5 Q 0 0 M228 sz 75 [(0, gA n0 0), (1, gJ a), (3, gJ v227)] [] := by
            intro N356; induction N356 with
            | zero => intro v227 M228 rv227 IM228 CM228 FM228 hm358; exfalso; omega
            | succ N356 ih357 =>
              intro v227 M228 rv227 IM228 CM228 FM228 hm358
              refine g_iload_n (n := 76) X 2 dX11_weigh_75 rfl rfl rfl ?_
              refine g_aload_n (n := 77) X 0 dX11_weigh_76 rfl rfl rfl ?_
              refine gg_11_0 (n := 80) (z := 1) X (by decide) (gsz hsz (by decide)) lay_0 kw_2_231 dX11_weigh_77 rfl (rf_0_0 IM228 (gsz hsz (by decide))) (by decide) ?_
              obtain ⟨v359, hv359, rv359⟩ := gRd IM228 (by decide) (gsz hsz (by decide)) rc_1_10.1
              refine gg_9_10 (n := 83) (z := v359) X (by decide) (gsz hsz (by decide)) lay_1 kw_2_127 dX11_weigh_80 rfl hv359 ?_
              refine g_icmp_ge (n := 86) (tgt := 141) X dX11_weigh_83 (by decide) (by omega) (by omega) rfl (fun c360 => ?_) (fun c360 => ?_)
              · exact hq _ _ _ dX11_weigh_141 ⟨IM228, CM228, (gFr.c (gFr.c gFr.rf FM5 rfl) FM228 rfl)⟩
              · refine g_aload_n (n := 87) X 0 dX11_weigh_86 rfl rfl rfl ?_
                refine gg_11_0 (n := 90) (z := 1) X (by decide) (gsz hsz (by decide)) lay_0 kw_2_231 dX11_weigh_87 rfl (rf_0_0 IM228 (gsz hsz (by decide))) (by decide) ?_
                refine gg_9_7 (n := 93) (z := 23) X (by decide) (gsz hsz (by decide)) lay_1 kw_2_121 dX11_weigh_90 rfl (rf_1_7 IM228 (gsz hsz (by decide))) (by decide) ?_
                refine g_iload_n (n := 94) X 1 dX11_weigh_93 rfl rfl rfl ?_
                refine g_iload_n (n := 95) X 2 dX11_weigh_94 rfl rfl rfl ?_
                refine g_callVi (n := 98) (As := [gJ a, gJ v227]) (rest := []) (cs1 := 0) (ss1 := 0) X (s_X5_wasHelped a (by omega) v227 (by omega) hsz IM228 CM228 ) okX5_wasHelped kw_5_63 ⟨kw_5_64, kw_5_65⟩ ⟨rfl, rfl⟩ ⟨Nat.le_of_ble_eq_true rfl, Nat.le_of_ble_eq_true rfl⟩ rfl (by decide) (gsz hsz (by decide)) lay_23 rfl rfl (Nat.le_of_ble_eq_true rfl) ⟨Nat.le_of_ble_eq_true rfl, Nat.le_of_ble_eq_true rfl⟩ rfl rfl dX11_weigh_95 rfl (fun v361 M362 P363 => ?_)
                obtain ⟨rfl, rv361⟩ := P363
                refine g_if_eq (n := 101) (tgt := 135) X dX11_weigh_98 (by decide) (by omega) rfl (fun c364 => ?_) (fun c364 => ?_)
                · refine g_iinc (n := 138) (w := v227 + 1) (L' := [(3, gJ (v227 + 1)), (0, gA n0 0), (1, gJ a)]) X 2 dX11_weigh_135 rfl rfl (by decide) rfl rfl ?_
                  refine g_goto (tgt := 75) X dX11_weigh_138 (by decide) ?_
                  refine G.sub (L' := [(0, gA n0 0), (1, gJ a), (3, gJ (v227 + 1))]) [1, 2, 0] rfl ?_
                  exact ih357 (v227 + 1) M228 (by omega) IM228 CM228 (gFr.c gFr.rf FM228 rfl) (by omega)
                · refine g_aload_n (n := 102) X 0 dX11_weigh_101 rfl rfl rfl ?_
                  refine gg_11_1 (n := 105) (z := 153) X (by decide) (gsz hsz (by decide)) lay_0 kw_2_232 dX11_weigh_102 rfl (rf_0_1 IM228 (gsz hsz (by decide))) (by decide) ?_
                  refine g_aload_n (n := 106) X 0 dX11_weigh_105 rfl rfl rfl ?_
                  refine gg_11_0 (n := 109) (z := 1) X (by decide) (gsz hsz (by decide)) lay_0 kw_2_231 dX11_weigh_106 rfl (rf_0_0 IM228 (gsz hsz (by decide))) (by decide) ?_
                  refine g_iload_n (n := 110) X 2 dX11_weigh_109 rfl rfl rfl ?_
                  refine g_iload_n (n := 111) X 1 dX11_weigh_110 rfl rfl rfl ?_
                  refine g_ldc2 (n := 114) (z := (-1)) X dX11_weigh_111 kw_3_159 (by decide +kernel) rfl ?_
                  refine g_callVi (n := 117) (As := [gA n0 1, gJ v227, gJ a, gV (-1)]) (rest := []) (cs1 := 0) (ss1 := 0) X (s_X1_whose v227 (by omega) a (by omega) (-1) (by omega) hsz IM228 CM228 ) okX1_whose kw_3_160 ⟨kw_3_161, kw_3_162⟩ ⟨rfl, rfl⟩ ⟨Nat.le_of_ble_eq_true rfl, Nat.le_of_ble_eq_true rfl⟩ rfl (by decide) (gsz hsz (by decide)) lay_153 rfl rfl (Nat.le_of_ble_eq_true rfl) ⟨Nat.le_of_ble_eq_true rfl, Nat.le_of_ble_eq_true rfl⟩ rfl rfl dX11_weigh_114 rfl (fun v365 M366 P367 => ?_)
                  obtain ⟨rfl, rv365⟩ := P367
                  refine g_istore (n := 119) (L' := [(4, gJ v365), (0, gA n0 0), (1, gJ a), (3, gJ v227)]) X dX11_weigh_117 (by decide) rfl rfl ?_
                  refine g_iload (n := 121) X 0 dX11_weigh_119 rfl rfl ?_
                  refine g_if_lt (n := 124) (tgt := 135) X dX11_weigh_121 (by decide) (by omega) rfl (fun c368 => ?_) (fun c368 => ?_)
                  · refine g_iinc (n := 138) (w := v227 + 1) (L' := [(3, gJ (v227 + 1)), (4, gJ v365), (0, gA n0 0), (1, gJ a)]) X 3 dX11_weigh_135 rfl rfl (by decide) rfl rfl ?_
                    refine g_goto (tgt := 75) X dX11_weigh_138 (by decide) ?_
                    refine G.sub (L' := [(0, gA n0 0), (1, gJ a), (3, gJ (v227 + 1))]) [2, 3, 0] rfl ?_
                    exact ih357 (v227 + 1) M228 (by omega) IM228 CM228 (gFr.c gFr.rf FM228 rfl) (by omega)
                  · refine g_aload_n (n := 125) X 1 dX11_weigh_124 rfl rfl rfl ?_
                    refine gg_11_5 (n := 128) (z := 170) X (by decide) (gsz hsz (by decide)) lay_0 kw_2_236 dX11_weigh_125 rfl (rf_0_5 IM228 (gsz hsz (by decide))) (by decide) ?_
                    refine g_iload (n := 130) X 0 dX11_weigh_128 rfl rfl ?_
                    refine g_dup2 (n := 131) X dX11_weigh_130 rfl rfl rfl ?_
                    obtain ⟨v369, hv369, rv369⟩ := gRd IM228 (by decide) (gsz hsz (by decide)) (ra_170 v365).1
                    refine g_lald2 (n := 132) (v := v369) X (by decide) (gsz hsz (by decide)) lay_170 (by omega) (by omega) (by decide) dX11_weigh_131 rfl hv369 ?_
                    refine g_lconst (n := 133) (z := 1) X dX11_weigh_132 (by decide +kernel) rfl ?_
                    refine g_laddA (n := 134) X dX11_weigh_133 rfl (fun v370 rv370 xv370 => ?_)
                    clear xv370
                    refine g_last (n := 135) X (by decide) (gsz hsz (by decide)) lay_170 (by omega) (by omega) (by decide) dX11_weigh_134 rfl ?_
                    refine G.nm (fun M371 e372 => ?_)
                    have IM371 : gI sz M371 := gI.set IM228 (ra_170 v365).1 (by omega) e372
                    have CM371 : gC sz M371 := gC.set CM228 (ra_170 v365).2.1 e372
                    refine g_iinc (n := 138) (w := v227 + 1) (L' := [(3, gJ (v227 + 1)), (4, gJ v365), (0, gA n0 0), (1, gJ a)]) X 3 dX11_weigh_135 rfl rfl (by decide) rfl rfl ?_
                    refine g_goto (tgt := 75) X dX11_weigh_138 (by decide) ?_
                    refine G.sub (L' := [(0, gA n0 0), (1, gJ a), (3, gJ (v227 + 1))]) [2, 3, 0] rfl ?_
                    exact ih357 (v227 + 1) M371 (by omega) IM371 CM371 (gFr.s (gFr.c gFr.rf FM228 rfl) e372 (ra_170 v365).2.2 rfl) (by omega)
          refine G.sub (L' := [(0, gA n0 0), (1, gJ a), (3, gJ 0)]) [1, 2, 0] rfl ?_
          exact j229 _ 0 M5 (by omega) IM5 CM5 gFr.rf (Nat.lt_succ_self _)
        · exact hq _ _ _ dX11_weigh_72 ⟨IM5, CM5, (gFr.c gFr.rf FM5 rfl)⟩
      · refine g_iload_n (n := 20) X 2 dX11_weigh_19 rfl rfl rfl ?_
        refine g_if_ne (n := 23) (tgt := 45) X dX11_weigh_20 (by decide) (by omega) rfl (fun c373 => ?_) (fun c373 => ?_)
        · refine g_aload_n (n := 46) X 0 dX11_weigh_45 rfl rfl rfl ?_
          refine gg_11_5 (n := 49) (z := 170) X (by decide) (gsz hsz (by decide)) lay_0 kw_2_236 dX11_weigh_46 rfl (rf_0_5 IM5 (gsz hsz (by decide))) (by decide) ?_
          refine g_iload_n (n := 50) X 3 dX11_weigh_49 rfl rfl rfl ?_
          refine g_iload_n (n := 51) X 2 dX11_weigh_50 rfl rfl rfl ?_
          refine g_iconst (n := 52) X dX11_weigh_51 rfl ?_
          refine g_icmp_ne (n := 55) (tgt := 59) X dX11_weigh_52 (by decide) (by omega) (by omega) rfl (fun c374 => ?_) (fun c374 => ?_)
          · refine g_lconst (n := 60) (z := 1) X dX11_weigh_59 (by decide +kernel) rfl ?_
            refine g_last (n := 61) X (by decide) (gsz hsz (by decide)) lay_170 (by omega) (by omega) (by decide) dX11_weigh_60 rfl ?_
            refine G.nm (fun M375 e376 => ?_)
            have IM375 : gI sz M375 := gI.set IM5 (ra_170 v4).1 (by omega) e376
            have CM375 : gC sz M375 := gC.set CM5 (ra_170 v4).2.1 e376
            refine g_iinc (n := 64) (w := v4 + 1) (L' := [(3, gJ (v4 + 1)), (0, gA n0 0), (1, gJ a), (2, gJ v1)]) X 3 dX11_weigh_61 rfl rfl (by decide) rfl rfl ?_
            refine g_goto (tgt := 13) X dX11_weigh_64 (by decide) ?_
            refine G.sub (L' := [(0, gA n0 0), (1, gJ a), (2, gJ v1), (3, gJ (v4 + 1))]) [1, 2, 3, 0] rfl ?_
            exact ih214 (v4 + 1) M375 (by omega) IM375 CM375 (gFr.s (gFr.c gFr.rf FM5 rfl) e376 (ra_170 v4).2.2 rfl) (by omega)
          · refine g_lconst (n := 56) (z := 0) X dX11_weigh_55 (by decide +kernel) rfl ?_
            refine g_goto (tgt := 60) X dX11_weigh_56 (by decide) ?_
            refine g_last (n := 61) X (by decide) (gsz hsz (by decide)) lay_170 (by omega) (by omega) (by decide) dX11_weigh_60 rfl ?_
            refine G.nm (fun M377 e378 => ?_)
            have IM377 : gI sz M377 := gI.set IM5 (ra_170 v4).1 (by omega) e378
            have CM377 : gC sz M377 := gC.set CM5 (ra_170 v4).2.1 e378
            refine g_iinc (n := 64) (w := v4 + 1) (L' := [(3, gJ (v4 + 1)), (0, gA n0 0), (1, gJ a), (2, gJ v1)]) X 3 dX11_weigh_61 rfl rfl (by decide) rfl rfl ?_
            refine g_goto (tgt := 13) X dX11_weigh_64 (by decide) ?_
            refine G.sub (L' := [(0, gA n0 0), (1, gJ a), (2, gJ v1), (3, gJ (v4 + 1))]) [1, 2, 3, 0] rfl ?_
            exact ih214 (v4 + 1) M377 (by omega) IM377 CM377 (gFr.s (gFr.c gFr.rf FM5 rfl) e378 (ra_170 v4).2.2 rfl) (by omega)
        · refine g_aload_n (n := 24) X 0 dX11_weigh_23 rfl rfl rfl ?_
          refine gg_11_5 (n := 27) (z := 170) X (by decide) (gsz hsz (by decide)) lay_0 kw_2_236 dX11_weigh_24 rfl (rf_0_5 IM5 (gsz hsz (by decide))) (by decide) ?_
          refine g_iload_n (n := 28) X 3 dX11_weigh_27 rfl rfl rfl ?_
          refine g_aload_n (n := 29) X 0 dX11_weigh_28 rfl rfl rfl ?_
          refine gg_11_0 (n := 32) (z := 1) X (by decide) (gsz hsz (by decide)) lay_0 kw_2_231 dX11_weigh_29 rfl (rf_0_0 IM5 (gsz hsz (by decide))) (by decide) ?_
          refine gg_9_0 (n := 35) (z := 2) X (by decide) (gsz hsz (by decide)) lay_1 kw_2_105 dX11_weigh_32 rfl (rf_1_0 IM5 (gsz hsz (by decide))) (by decide) ?_
          refine gg_3_0 (n := 38) (z := 3) X (by decide) (gsz hsz (by decide)) lay_2 kw_1_42 dX11_weigh_35 rfl (rf_2_0 IM5 (gsz hsz (by decide))) (by decide) ?_
          refine g_iload_n (n := 39) X 3 dX11_weigh_38 rfl rfl rfl ?_
          obtain ⟨v379, hv379, rv379⟩ := gRd IM5 (by decide) (gsz hsz (by decide)) (ra_3 v4).1
          refine g_iald2 (n := 40) (v := v379) X (by decide) (gsz hsz (by decide)) lay_3 (by omega) (by omega) (by decide) dX11_weigh_39 rfl hv379 ?_
          refine g_i2lE (n := 41) (z := v379) X dX11_weigh_40 (g_i2l (by omega)) rfl ?_
          refine g_last (n := 42) X (by decide) (gsz hsz (by decide)) lay_170 (by omega) (by omega) (by decide) dX11_weigh_41 rfl ?_
          refine G.nm (fun M380 e381 => ?_)
          have IM380 : gI sz M380 := gI.set IM5 (ra_170 v4).1 (by omega) e381
          have CM380 : gC sz M380 := gC.set CM5 (ra_170 v4).2.1 e381
          refine g_goto (tgt := 61) X dX11_weigh_42 (by decide) ?_
          refine g_iinc (n := 64) (w := v4 + 1) (L' := [(3, gJ (v4 + 1)), (0, gA n0 0), (1, gJ a), (2, gJ v1)]) X 3 dX11_weigh_61 rfl rfl (by decide) rfl rfl ?_
          refine g_goto (tgt := 13) X dX11_weigh_64 (by decide) ?_
          refine G.sub (L' := [(0, gA n0 0), (1, gJ a), (2, gJ v1), (3, gJ (v4 + 1))]) [1, 2, 3, 0] rfl ?_
          exact ih214 (v4 + 1) M380 (by omega) IM380 CM380 (gFr.s (gFr.c gFr.rf FM5 rfl) e381 (ra_170 v4).2.2 rfl) (by omega)
  refine G.sub (L' := [(0, gA n0 0), (1, gJ a), (2, gJ v1), (3, gJ 0)]) [2, 3, 1, 0] rfl ?_
  exact j6 _ 0 M (by omega) I C gFr.rf (Nat.lt_succ_self _)
theorem dX11_rowFits_0 : decode cX11_rowFits 0 = .ok (.aload_n 0, 1) := dc_42 (by decide +kernel)
theorem dX11_rowFits_1 : decode cX11_rowFits 1 = .ok (.getfield 10, 3) := dc_180 0 10 (by decide +kernel)
theorem dX11_rowFits_4 : decode cX11_rowFits 4 = .ok (.getfield 85, 3) := dc_180 0 85 (by decide +kernel)
theorem dX11_rowFits_7 : decode cX11_rowFits 7 = .ok (.aload_n 0, 1) := dc_42 (by decide +kernel)
theorem dX11_rowFits_8 : decode cX11_rowFits 8 = .ok (.getfield 10, 3) := dc_180 0 10 (by decide +kernel)
theorem dX11_rowFits_11 : decode cX11_rowFits 11 = .ok (.getfield 279, 3) := dc_180 1 23 (by decide +kernel)
theorem kw_2_119 : (Jvm.Cond.fieldLink "ParishUnion" (279 : Nat) "ParishUnion$Union" "house" "LParishUnion$House;") ∈ gT := gT_of (tb_2 _ (List.mem_of_getElem? (i := 119) rfl)) rfl
theorem dX11_rowFits_14 : decode cX11_rowFits 14 = .ok (.getfield 397, 3) := dc_180 1 141 (by decide +kernel)
theorem kw_1_102 : (Jvm.Cond.fieldLink "ParishUnion" (397 : Nat) "ParishUnion$House" "rowSize" "[I") ∈ gT := gT_of (tb_1 _ (List.mem_of_getElem? (i := 102) rfl)) rfl
theorem dX11_rowFits_17 : decode cX11_rowFits 17 = .ok (.iload_n 1, 1) := dc_27 (by decide +kernel)
theorem dX11_rowFits_18 : decode cX11_rowFits 18 = .ok (.iaload, 1) := dc_46 (by decide +kernel)
theorem dX11_rowFits_19 : decode cX11_rowFits 19 = .ok (.iadd, 1) := dc_96 (by decide +kernel)
theorem dX11_rowFits_20 : decode cX11_rowFits 20 = .ok (.sipush 300, 3) := dc_17 1 44 300 (by decide +kernel)
theorem dX11_rowFits_23 : decode cX11_rowFits 23 = .ok (.if_icmp .gt 7, 3) := dc_163 0 7 7 (by decide +kernel)
theorem dX11_rowFits_30 : decode cX11_rowFits 30 = .ok (.iconst 0, 1) := dc_3 (by decide +kernel)
theorem dX11_rowFits_31 : decode cX11_rowFits 31 = .ok (.ireturn, 1) := dc_172 (by decide +kernel)
theorem dX11_rowFits_26 : decode cX11_rowFits 26 = .ok (.iconst 1, 1) := dc_4 (by decide +kernel)
theorem dX11_rowFits_27 : decode cX11_rowFits 27 = .ok (.goto 4, 3) := dc_167 0 4 4 (by decide +kernel)
abbrev R_X11_rowFits : Room := { frames := 0, cells := 0, slots := 0, locals := 0 }
set_option maxRecDepth 100000 in
set_option maxHeartbeats 4000000 in
theorem s_X11_rowFits {l : Launch} {n0 : Nat} {D : va_G} {cA : Nat → ClassId} {M : gM} (a : Int) (r_a : 0 ≤ a ∧ a ≤ 2) {sz : Nat} (hsz : 206 ≤ sz) (I : gI sz M) (C : gC sz M)   : Met l yX11_rowFits (gWsOf yX11_rowFits cX11_rowFits 2 (Option.some Jvm.ClassFile.FieldType.boolean)) R_X11_rowFits (gPc n0 D cA [gA n0 0, gJ a] M sz) (gQi n0 D cA sz (fun z M1 => M = M1 ∧ (0 ≤ z ∧ z ≤ 1))) 0 0 (fun q => n0 ≤ q) := by
  refine gMetZ [gA n0 0, gJ a] (by decide) (Nat.le_of_ble_eq_true rfl) ⟨rfl, rfl⟩ ?_
  intro p e s m args below meth cd Q X hq
  have X : gCx p s m args meth cd n0 D cA "ParishUnion" cX11_rowFits 2 := X
  show G p l e R_X11_rowFits s m args below meth cd n0 D cA 2 Q 0 0 M sz 0 [(0, gA n0 0), (1, gJ a)] []
  refine g_aload_n (n := 1) X 0 dX11_rowFits_0 rfl rfl rfl ?_
  refine gg_11_0 (n := 4) (z := 1) X (by decide) (gsz hsz (by decide)) lay_0 kw_2_231 dX11_rowFits_1 rfl (rf_0_0 I (gsz hsz (by decide))) (by decide) ?_
  obtain ⟨v1, hv1, rv1⟩ := gRd I (by decide) (gsz hsz (by decide)) rc_1_15.1
  refine gg_9_15 (n := 7) (z := v1) X (by decide) (gsz hsz (by decide)) lay_1 kw_2_139 dX11_rowFits_4 rfl hv1 ?_
  refine g_aload_n (n := 8) X 0 dX11_rowFits_7 rfl rfl rfl ?_
  refine gg_11_0 (n := 11) (z := 1) X (by decide) (gsz hsz (by decide)) lay_0 kw_2_231 dX11_rowFits_8 rfl (rf_0_0 I (gsz hsz (by decide))) (by decide) ?_
  refine gg_9_6 (n := 14) (z := 15) X (by decide) (gsz hsz (by decide)) lay_1 kw_2_119 dX11_rowFits_11 rfl (rf_1_6 I (gsz hsz (by decide))) (by decide) ?_
  refine gg_2_2 (n := 17) (z := 18) X (by decide) (gsz hsz (by decide)) lay_15 kw_1_102 dX11_rowFits_14 rfl (rf_15_2 I (gsz hsz (by decide))) (by decide) ?_
  refine g_iload_n (n := 18) X 1 dX11_rowFits_17 rfl rfl rfl ?_
  obtain ⟨v2, hv2, rv2⟩ := gRd I (by decide) (gsz hsz (by decide)) (ra_18 a).1
  refine g_iald2 (n := 19) (v := v2) X (by decide) (gsz hsz (by decide)) lay_18 (by omega) (by omega) (by decide) dX11_rowFits_18 rfl hv2 ?_
  refine g_iadd (n := 20) (z := v1 + v2) X dX11_rowFits_19 rfl rfl ?_
  refine g_sipush (n := 23) X dX11_rowFits_20 (by decide +kernel) rfl ?_
  refine g_icmp_gt (n := 26) (tgt := 30) X dX11_rowFits_23 (by decide) (by omega) (by omega) rfl (fun c3 => ?_) (fun c3 => ?_)
  · refine g_iconst (n := 31) X dX11_rowFits_30 rfl ?_
    exact hq _ _ _ _ dX11_rowFits_31 (by omega) ⟨rfl, by omega⟩
  · refine g_iconst (n := 27) X dX11_rowFits_26 rfl ?_
    refine g_goto (tgt := 31) X dX11_rowFits_27 (by decide) ?_
    exact hq _ _ _ _ dX11_rowFits_31 (by omega) ⟨rfl, by omega⟩
theorem dX11_rowsCanBeTried_0 : decode cX11_rowsCanBeTried 0 = .ok (.iconst 0, 1) := dc_3 (by decide +kernel)
theorem dX11_rowsCanBeTried_1 : decode cX11_rowsCanBeTried 1 = .ok (.istore_n 1, 1) := dc_60 (by decide +kernel)
theorem dX11_rowsCanBeTried_2 : decode cX11_rowsCanBeTried 2 = .ok (.iconst 0, 1) := dc_3 (by decide +kernel)
theorem dX11_rowsCanBeTried_3 : decode cX11_rowsCanBeTried 3 = .ok (.istore_n 2, 1) := dc_61 (by decide +kernel)
theorem dX11_rowsCanBeTried_4 : decode cX11_rowsCanBeTried 4 = .ok (.iload_n 2, 1) := dc_28 (by decide +kernel)
theorem dX11_rowsCanBeTried_5 : decode cX11_rowsCanBeTried 5 = .ok (.iconst 3, 1) := dc_6 (by decide +kernel)
theorem dX11_rowsCanBeTried_6 : decode cX11_rowsCanBeTried 6 = .ok (.if_icmp .ge 42, 3) := dc_162 0 42 42 (by decide +kernel)
theorem dX11_rowsCanBeTried_9 : decode cX11_rowsCanBeTried 9 = .ok (.aload_n 0, 1) := dc_42 (by decide +kernel)
theorem dX11_rowsCanBeTried_10 : decode cX11_rowsCanBeTried 10 = .ok (.iload_n 2, 1) := dc_28 (by decide +kernel)
theorem dX11_rowsCanBeTried_11 : decode cX11_rowsCanBeTried 11 = .ok (.invokevirtual 400, 3) := dc_182 1 144 (by decide +kernel)
theorem kw_5_153 : (Jvm.Cond.methodLink "ParishUnion" (400 : Nat) ({ cls := "ParishUnion", name := "rowFits", desc := "(I)Z" } : Jvm.MethodName)) ∈ gT := gT_of (tb_5 _ (List.mem_of_getElem? (i := 153) rfl)) rfl
theorem kw_5_156 : (Jvm.Cond.code ({ cls := "ParishUnion", name := "rowFits", desc := "(I)Z" } : Jvm.MethodName) prog_1_method_63_code (2 : Nat) (Option.some Jvm.ClassFile.FieldType.boolean)) ∈ gT := gT_of (tb_5 _ (List.mem_of_getElem? (i := 156) rfl)) rfl
theorem okX11_rowFits : gQok yX11_rowFits cX11_rowFits 2 (Option.some Jvm.ClassFile.FieldType.boolean) 1 := ⟨kw_5_156, kw_1_1, by decide +kernel, by decide +kernel, by decide +kernel⟩
theorem kw_5_155 : (Jvm.Cond.instanceMethod ({ cls := "ParishUnion", name := "rowFits", desc := "(I)Z" } : Jvm.MethodName)) ∈ gT := gT_of (tb_5 _ (List.mem_of_getElem? (i := 155) rfl)) rfl
theorem kw_0_34 : (Jvm.Cond.selects "ParishUnion" ({ cls := "ParishUnion", name := "rowFits", desc := "(I)Z" } : Jvm.MethodName) ({ cls := "ParishUnion", name := "rowFits", desc := "(I)Z" } : Jvm.MethodName)) ∈ gT := gT_of (tb_0 _ (List.mem_of_getElem? (i := 34) rfl)) rfl
theorem dX11_rowsCanBeTried_14 : decode cX11_rowsCanBeTried 14 = .ok (.ifCond .ne 5, 3) := dc_154 0 5 5 (by decide +kernel)
theorem dX11_rowsCanBeTried_19 : decode cX11_rowsCanBeTried 19 = .ok (.iload_n 1, 1) := dc_27 (by decide +kernel)
theorem dX11_rowsCanBeTried_20 : decode cX11_rowsCanBeTried 20 = .ok (.aload_n 0, 1) := dc_42 (by decide +kernel)
theorem dX11_rowsCanBeTried_21 : decode cX11_rowsCanBeTried 21 = .ok (.getfield 10, 3) := dc_180 0 10 (by decide +kernel)
theorem dX11_rowsCanBeTried_24 : decode cX11_rowsCanBeTried 24 = .ok (.getfield 279, 3) := dc_180 1 23 (by decide +kernel)
theorem dX11_rowsCanBeTried_27 : decode cX11_rowsCanBeTried 27 = .ok (.getfield 397, 3) := dc_180 1 141 (by decide +kernel)
theorem dX11_rowsCanBeTried_30 : decode cX11_rowsCanBeTried 30 = .ok (.iload_n 2, 1) := dc_28 (by decide +kernel)
theorem dX11_rowsCanBeTried_31 : decode cX11_rowsCanBeTried 31 = .ok (.iaload, 1) := dc_46 (by decide +kernel)
theorem dX11_rowsCanBeTried_32 : decode cX11_rowsCanBeTried 32 = .ok (.ifCond .le 7, 3) := dc_158 0 7 7 (by decide +kernel)
theorem dX11_rowsCanBeTried_39 : decode cX11_rowsCanBeTried 39 = .ok (.iconst 0, 1) := dc_3 (by decide +kernel)
theorem dX11_rowsCanBeTried_40 : decode cX11_rowsCanBeTried 40 = .ok (.ior, 1) := dc_128 (by decide +kernel)
theorem dX11_rowsCanBeTried_41 : decode cX11_rowsCanBeTried 41 = .ok (.istore_n 1, 1) := dc_60 (by decide +kernel)
theorem dX11_rowsCanBeTried_42 : decode cX11_rowsCanBeTried 42 = .ok (.iinc 2 1, 3) := dc_132 2 1 1 (by decide +kernel)
theorem dX11_rowsCanBeTried_45 : decode cX11_rowsCanBeTried 45 = .ok (.goto (-41), 3) := dc_167 255 215 (-41) (by decide +kernel)
theorem dX11_rowsCanBeTried_35 : decode cX11_rowsCanBeTried 35 = .ok (.iconst 1, 1) := dc_4 (by decide +kernel)
theorem dX11_rowsCanBeTried_36 : decode cX11_rowsCanBeTried 36 = .ok (.goto 4, 3) := dc_167 0 4 4 (by decide +kernel)
theorem dX11_rowsCanBeTried_17 : decode cX11_rowsCanBeTried 17 = .ok (.iconst 0, 1) := dc_3 (by decide +kernel)
theorem dX11_rowsCanBeTried_18 : decode cX11_rowsCanBeTried 18 = .ok (.ireturn, 1) := dc_172 (by decide +kernel)
theorem dX11_rowsCanBeTried_48 : decode cX11_rowsCanBeTried 48 = .ok (.iload_n 1, 1) := dc_27 (by decide +kernel)
theorem dX11_rowsCanBeTried_49 : decode cX11_rowsCanBeTried 49 = .ok (.ireturn, 1) := dc_172 (by decide +kernel)
abbrev R_X11_rowsCanBeTried : Room := { frames := 1, cells := 0, slots := 0, locals := 21 }
set_option maxRecDepth 100000 in
set_option maxHeartbeats 4000000 in
theorem s_X11_rowsCanBeTried {l : Launch} {n0 : Nat} {D : va_G} {cA : Nat → ClassId} {M : gM}  {sz : Nat} (hsz : 206 ≤ sz) (I : gI sz M) (C : gC sz M)   : Met l yX11_rowsCanBeTried (gWsOf yX11_rowsCanBeTried cX11_rowsCanBeTried 3 (Option.some Jvm.ClassFile.FieldType.boolean)) R_X11_rowsCanBeTried (gPc n0 D cA [gA n0 0] M sz) (gQi n0 D cA sz (fun z M1 => M = M1 ∧ (0 ≤ z ∧ z ≤ 1))) 0 0 (fun q => n0 ≤ q) := by
  refine gMetZ [gA n0 0] (by decide) (Nat.le_of_ble_eq_true rfl) ⟨rfl, rfl⟩ ?_
  intro p e s m args below meth cd Q X hq
  have X : gCx p s m args meth cd n0 D cA "ParishUnion" cX11_rowsCanBeTried 3 := X
  show G p l e R_X11_rowsCanBeTried s m args below meth cd n0 D cA 3 Q 0 0 M sz 0 [(0, gA n0 0)] []
  refine g_iconst (n := 1) X dX11_rowsCanBeTried_0 rfl ?_
  refine g_istore_n (n := 2) (L' := [(1, gJ 0), (0, gA n0 0)]) X dX11_rowsCanBeTried_1 rfl (by decide) rfl rfl ?_
  refine g_iconst (n := 3) X dX11_rowsCanBeTried_2 rfl ?_
  refine g_istore_n (n := 4) (L' := [(2, gJ 0), (1, gJ 0), (0, gA n0 0)]) X dX11_rowsCanBeTried_3 rfl (by decide) rfl rfl ?_
  have j4 : ∀ (N41 : Nat) (v1 v2 : Int) , (0 ≤ v1 ∧ v1 ≤ 1) → (0 ≤ v2 ∧ v2 ≤ 3) → (3 - v2).toNat < N41 → G p l e R_X11_rowsCanBeTried s m args below meth cd n0 D cA 3 Q 0 0 M sz 4 [(0, gA n0 0), (1, gJ v1), (2, gJ v2)] [] := by
    intro N41; induction N41 with
    | zero => intro v1 v2 rv1 rv2 hm43; exfalso; omega
    | succ N41 ih42 =>
      intro v1 v2 rv1 rv2 hm43
      refine g_iload_n (n := 5) X 2 dX11_rowsCanBeTried_4 rfl rfl rfl ?_
      refine g_iconst (n := 6) X dX11_rowsCanBeTried_5 rfl ?_
      refine g_icmp_ge (n := 9) (tgt := 48) X dX11_rowsCanBeTried_6 (by decide) (by omega) (by omega) rfl (fun c44 => ?_) (fun c44 => ?_)
      · refine g_iload_n (n := 49) X 1 dX11_rowsCanBeTried_48 rfl rfl rfl ?_
        exact hq _ _ _ _ dX11_rowsCanBeTried_49 (by omega) ⟨rfl, by omega⟩
      · refine g_aload_n (n := 10) X 0 dX11_rowsCanBeTried_9 rfl rfl rfl ?_
        refine g_iload_n (n := 11) X 2 dX11_rowsCanBeTried_10 rfl rfl rfl ?_
        refine g_callVi (n := 14) (As := [gJ v2]) (rest := []) (cs1 := 0) (ss1 := 0) X (s_X11_rowFits v2 (by omega) hsz I C ) okX11_rowFits kw_5_153 ⟨kw_5_155, kw_0_34⟩ ⟨rfl, rfl⟩ ⟨Nat.le_of_ble_eq_true rfl, Nat.le_of_ble_eq_true rfl⟩ rfl (by decide) (gsz hsz (by decide)) lay_0 rfl rfl (Nat.le_of_ble_eq_true rfl) ⟨Nat.le_of_ble_eq_true rfl, Nat.le_of_ble_eq_true rfl⟩ rfl rfl dX11_rowsCanBeTried_11 rfl (fun v45 M46 P47 => ?_)
        obtain ⟨rfl, rv45⟩ := P47
        refine g_if_ne (n := 17) (tgt := 19) X dX11_rowsCanBeTried_14 (by decide) (by omega) rfl (fun c48 => ?_) (fun c48 => ?_)
        · refine g_iload_n (n := 20) X 1 dX11_rowsCanBeTried_19 rfl rfl rfl ?_
          refine g_aload_n (n := 21) X 0 dX11_rowsCanBeTried_20 rfl rfl rfl ?_
          refine gg_11_0 (n := 24) (z := 1) X (by decide) (gsz hsz (by decide)) lay_0 kw_2_231 dX11_rowsCanBeTried_21 rfl (rf_0_0 I (gsz hsz (by decide))) (by decide) ?_
          refine gg_9_6 (n := 27) (z := 15) X (by decide) (gsz hsz (by decide)) lay_1 kw_2_119 dX11_rowsCanBeTried_24 rfl (rf_1_6 I (gsz hsz (by decide))) (by decide) ?_
          refine gg_2_2 (n := 30) (z := 18) X (by decide) (gsz hsz (by decide)) lay_15 kw_1_102 dX11_rowsCanBeTried_27 rfl (rf_15_2 I (gsz hsz (by decide))) (by decide) ?_
          refine g_iload_n (n := 31) X 2 dX11_rowsCanBeTried_30 rfl rfl rfl ?_
          obtain ⟨v49, hv49, rv49⟩ := gRd I (by decide) (gsz hsz (by decide)) (ra_18 v2).1
          refine g_iald2 (n := 32) (v := v49) X (by decide) (gsz hsz (by decide)) lay_18 (by omega) (by omega) (by decide) dX11_rowsCanBeTried_31 rfl hv49 ?_
          refine g_if_le (n := 35) (tgt := 39) X dX11_rowsCanBeTried_32 (by decide) (by omega) rfl (fun c50 => ?_) (fun c50 => ?_)
          · refine g_iconst (n := 40) X dX11_rowsCanBeTried_39 rfl ?_
            refine g_iorB (n := 41) X dX11_rowsCanBeTried_40 (by omega) (by omega) rfl (fun v51 rv51 => ?_)
            refine g_istore_n (n := 42) (L' := [(1, gJ v51), (0, gA n0 0), (2, gJ v2)]) X dX11_rowsCanBeTried_41 rfl (by decide) rfl rfl ?_
            refine g_iinc (n := 45) (w := v2 + 1) (L' := [(2, gJ (v2 + 1)), (1, gJ v51), (0, gA n0 0)]) X 2 dX11_rowsCanBeTried_42 rfl rfl (by decide) rfl rfl ?_
            refine g_goto (tgt := 4) X dX11_rowsCanBeTried_45 (by decide) ?_
            refine G.sub (L' := [(0, gA n0 0), (1, gJ v51), (2, gJ (v2 + 1))]) [2, 1, 0] rfl ?_
            exact ih42 v51 (v2 + 1) (by omega) (by omega) (by omega)
          · refine g_iconst (n := 36) X dX11_rowsCanBeTried_35 rfl ?_
            refine g_goto (tgt := 40) X dX11_rowsCanBeTried_36 (by decide) ?_
            refine g_iorB (n := 41) X dX11_rowsCanBeTried_40 (by omega) (by omega) rfl (fun v52 rv52 => ?_)
            refine g_istore_n (n := 42) (L' := [(1, gJ v52), (0, gA n0 0), (2, gJ v2)]) X dX11_rowsCanBeTried_41 rfl (by decide) rfl rfl ?_
            refine g_iinc (n := 45) (w := v2 + 1) (L' := [(2, gJ (v2 + 1)), (1, gJ v52), (0, gA n0 0)]) X 2 dX11_rowsCanBeTried_42 rfl rfl (by decide) rfl rfl ?_
            refine g_goto (tgt := 4) X dX11_rowsCanBeTried_45 (by decide) ?_
            refine G.sub (L' := [(0, gA n0 0), (1, gJ v52), (2, gJ (v2 + 1))]) [2, 1, 0] rfl ?_
            exact ih42 v52 (v2 + 1) (by omega) (by omega) (by omega)
        · refine g_iconst (n := 18) X dX11_rowsCanBeTried_17 rfl ?_
          exact hq _ _ _ _ dX11_rowsCanBeTried_18 (by omega) ⟨rfl, by omega⟩
  refine G.sub (L' := [(0, gA n0 0), (1, gJ 0), (2, gJ 0)]) [2, 1, 0] rfl ?_
  exact j4 _ 0 0 (by omega) (by omega) (Nat.lt_succ_self _)
theorem dX11_sumOfTry_0 : decode cX11_sumOfTry 0 = .ok (.iconst 0, 1) := dc_3 (by decide +kernel)
theorem dX11_sumOfTry_1 : decode cX11_sumOfTry 1 = .ok (.istore_n 3, 1) := dc_62 (by decide +kernel)
theorem dX11_sumOfTry_2 : decode cX11_sumOfTry 2 = .ok (.iload_n 1, 1) := dc_27 (by decide +kernel)
theorem dX11_sumOfTry_3 : decode cX11_sumOfTry 3 = .ok (.istore 4, 2) := dc_54 4 (by decide +kernel)
theorem dX11_sumOfTry_5 : decode cX11_sumOfTry 5 = .ok (.iload 4, 2) := dc_21 4 (by decide +kernel)
theorem dX11_sumOfTry_7 : decode cX11_sumOfTry 7 = .ok (.aload_n 0, 1) := dc_42 (by decide +kernel)
theorem dX11_sumOfTry_8 : decode cX11_sumOfTry 8 = .ok (.getfield 10, 3) := dc_180 0 10 (by decide +kernel)
theorem dX11_sumOfTry_11 : decode cX11_sumOfTry 11 = .ok (.getfield 85, 3) := dc_180 0 85 (by decide +kernel)
theorem dX11_sumOfTry_14 : decode cX11_sumOfTry 14 = .ok (.if_icmp .ge 86, 3) := dc_162 0 86 86 (by decide +kernel)
theorem dX11_sumOfTry_100 : decode cX11_sumOfTry 100 = .ok (.iload_n 3, 1) := dc_29 (by decide +kernel)
theorem dX11_sumOfTry_101 : decode cX11_sumOfTry 101 = .ok (.ireturn, 1) := dc_172 (by decide +kernel)
theorem dX11_sumOfTry_17 : decode cX11_sumOfTry 17 = .ok (.iload_n 2, 1) := dc_28 (by decide +kernel)
theorem dX11_sumOfTry_18 : decode cX11_sumOfTry 18 = .ok (.lookupswitch 64 #[(0, 26), (1, 45)], 26) := by decide +kernel
theorem dX11_sumOfTry_44 : decode cX11_sumOfTry 44 = .ok (.iload_n 3, 1) := dc_29 (by decide +kernel)
theorem dX11_sumOfTry_45 : decode cX11_sumOfTry 45 = .ok (.aload_n 0, 1) := dc_42 (by decide +kernel)
theorem dX11_sumOfTry_46 : decode cX11_sumOfTry 46 = .ok (.getfield 10, 3) := dc_180 0 10 (by decide +kernel)
theorem dX11_sumOfTry_49 : decode cX11_sumOfTry 49 = .ok (.getfield 307, 3) := dc_180 1 51 (by decide +kernel)
theorem dX11_sumOfTry_52 : decode cX11_sumOfTry 52 = .ok (.iload 4, 2) := dc_21 4 (by decide +kernel)
theorem dX11_sumOfTry_54 : decode cX11_sumOfTry 54 = .ok (.iconst 4, 1) := dc_7 (by decide +kernel)
theorem dX11_sumOfTry_55 : decode cX11_sumOfTry 55 = .ok (.invokevirtual 311, 3) := dc_182 1 55 (by decide +kernel)
theorem kw_5_19 : (Jvm.Cond.methodLink "ParishUnion" (311 : Nat) ({ cls := "ParishUnion$Past", name := "sum", desc := "(II)I" } : Jvm.MethodName)) ∈ gT := gT_of (tb_5 _ (List.mem_of_getElem? (i := 19) rfl)) rfl
theorem dX11_sumOfTry_58 : decode cX11_sumOfTry 58 = .ok (.iadd, 1) := dc_96 (by decide +kernel)
theorem dX11_sumOfTry_59 : decode cX11_sumOfTry 59 = .ok (.istore_n 3, 1) := dc_62 (by decide +kernel)
theorem dX11_sumOfTry_60 : decode cX11_sumOfTry 60 = .ok (.goto 34, 3) := dc_167 0 34 34 (by decide +kernel)
theorem dX11_sumOfTry_94 : decode cX11_sumOfTry 94 = .ok (.iinc 4 1, 3) := dc_132 4 1 1 (by decide +kernel)
theorem dX11_sumOfTry_97 : decode cX11_sumOfTry 97 = .ok (.goto (-92), 3) := dc_167 255 164 (-92) (by decide +kernel)
theorem dX11_sumOfTry_63 : decode cX11_sumOfTry 63 = .ok (.iload_n 3, 1) := dc_29 (by decide +kernel)
theorem dX11_sumOfTry_64 : decode cX11_sumOfTry 64 = .ok (.aload_n 0, 1) := dc_42 (by decide +kernel)
theorem dX11_sumOfTry_65 : decode cX11_sumOfTry 65 = .ok (.getfield 10, 3) := dc_180 0 10 (by decide +kernel)
theorem dX11_sumOfTry_68 : decode cX11_sumOfTry 68 = .ok (.getfield 307, 3) := dc_180 1 51 (by decide +kernel)
theorem dX11_sumOfTry_71 : decode cX11_sumOfTry 71 = .ok (.iload 4, 2) := dc_21 4 (by decide +kernel)
theorem dX11_sumOfTry_73 : decode cX11_sumOfTry 73 = .ok (.iconst 2, 1) := dc_5 (by decide +kernel)
theorem dX11_sumOfTry_74 : decode cX11_sumOfTry 74 = .ok (.invokevirtual 311, 3) := dc_182 1 55 (by decide +kernel)
theorem dX11_sumOfTry_77 : decode cX11_sumOfTry 77 = .ok (.iadd, 1) := dc_96 (by decide +kernel)
theorem dX11_sumOfTry_78 : decode cX11_sumOfTry 78 = .ok (.istore_n 3, 1) := dc_62 (by decide +kernel)
theorem dX11_sumOfTry_79 : decode cX11_sumOfTry 79 = .ok (.goto 15, 3) := dc_167 0 15 15 (by decide +kernel)
theorem dX11_sumOfTry_82 : decode cX11_sumOfTry 82 = .ok (.iload_n 3, 1) := dc_29 (by decide +kernel)
theorem dX11_sumOfTry_83 : decode cX11_sumOfTry 83 = .ok (.aload_n 0, 1) := dc_42 (by decide +kernel)
theorem dX11_sumOfTry_84 : decode cX11_sumOfTry 84 = .ok (.getfield 10, 3) := dc_180 0 10 (by decide +kernel)
theorem dX11_sumOfTry_87 : decode cX11_sumOfTry 87 = .ok (.iload 4, 2) := dc_21 4 (by decide +kernel)
theorem dX11_sumOfTry_89 : decode cX11_sumOfTry 89 = .ok (.invokevirtual 304, 3) := dc_182 1 48 (by decide +kernel)
theorem kw_5_15 : (Jvm.Cond.methodLink "ParishUnion" (304 : Nat) ({ cls := "ParishUnion$Union", name := "costOf", desc := "(I)I" } : Jvm.MethodName)) ∈ gT := gT_of (tb_5 _ (List.mem_of_getElem? (i := 15) rfl)) rfl
theorem kw_5_18 : (Jvm.Cond.code ({ cls := "ParishUnion$Union", name := "costOf", desc := "(I)I" } : Jvm.MethodName) prog_11_method_11_code (2 : Nat) (Option.some Jvm.ClassFile.FieldType.int)) ∈ gT := gT_of (tb_5 _ (List.mem_of_getElem? (i := 18) rfl)) rfl
theorem okX9_costOf : gQok yX9_costOf cX9_costOf 2 (Option.some Jvm.ClassFile.FieldType.int) 1 := ⟨kw_5_18, kw_1_2, by decide +kernel, by decide +kernel, by decide +kernel⟩
theorem kw_5_16 : (Jvm.Cond.instanceMethod ({ cls := "ParishUnion$Union", name := "costOf", desc := "(I)I" } : Jvm.MethodName)) ∈ gT := gT_of (tb_5 _ (List.mem_of_getElem? (i := 16) rfl)) rfl
theorem kw_5_17 : (Jvm.Cond.selects "ParishUnion$Union" ({ cls := "ParishUnion$Union", name := "costOf", desc := "(I)I" } : Jvm.MethodName) ({ cls := "ParishUnion$Union", name := "costOf", desc := "(I)I" } : Jvm.MethodName)) ∈ gT := gT_of (tb_5 _ (List.mem_of_getElem? (i := 17) rfl)) rfl
theorem dX11_sumOfTry_92 : decode cX11_sumOfTry 92 = .ok (.iadd, 1) := dc_96 (by decide +kernel)
theorem dX11_sumOfTry_93 : decode cX11_sumOfTry 93 = .ok (.istore_n 3, 1) := dc_62 (by decide +kernel)
abbrev R_X11_sumOfTry : Room := { frames := 2, cells := 0, slots := 0, locals := 43 }
set_option maxRecDepth 100000 in
set_option maxHeartbeats 4000000 in
theorem s_X11_sumOfTry {l : Launch} {n0 : Nat} {D : va_G} {cA : Nat → ClassId} {M : gM} (a : Int) (r_a : 0 ≤ a ∧ a ≤ 300) (b : Int) (r_b : -2147483648 ≤ b ∧ b ≤ 2147483647) {sz : Nat} (hsz : 206 ≤ sz) (I : gI sz M) (C : gC sz M)   : Met l yX11_sumOfTry (gWsOf yX11_sumOfTry cX11_sumOfTry 5 (Option.some Jvm.ClassFile.FieldType.int)) R_X11_sumOfTry (gPc n0 D cA [gA n0 0, gJ a, gJ b] M sz) (gQi n0 D cA sz (fun z M1 => M = M1 ∧ (-2147483648 ≤ z ∧ z ≤ 2147483647))) 0 0 (fun q => n0 ≤ q) := by
  refine gMetI [gA n0 0, gJ a, gJ b] (by decide) (Nat.le_of_ble_eq_true rfl) ⟨rfl, rfl⟩ ?_
  intro p e s m args below meth cd Q X hq
  have X : gCx p s m args meth cd n0 D cA "ParishUnion" cX11_sumOfTry 5 := X
  show G p l e R_X11_sumOfTry s m args below meth cd n0 D cA 5 Q 0 0 M sz 0 [(0, gA n0 0), (1, gJ a), (2, gJ b)] []
  refine g_iconst (n := 1) X dX11_sumOfTry_0 rfl ?_
  refine g_istore_n (n := 2) (L' := [(3, gJ 0), (0, gA n0 0), (1, gJ a), (2, gJ b)]) X dX11_sumOfTry_1 rfl (by decide) rfl rfl ?_
  refine g_iload_n (n := 3) X 2 dX11_sumOfTry_2 rfl rfl rfl ?_
  refine g_istore (n := 5) (L' := [(4, gJ a), (3, gJ 0), (0, gA n0 0), (1, gJ a), (2, gJ b)]) X dX11_sumOfTry_3 (by decide) rfl rfl ?_
  have j4 : ∀ (N34 : Nat) (v1 v2 : Int) , (-2147483648 ≤ v1 ∧ v1 ≤ 2147483647) → (0 ≤ v2 ∧ v2 ≤ 300) → (300 - v2).toNat < N34 → G p l e R_X11_sumOfTry s m args below meth cd n0 D cA 5 Q 0 0 M sz 5 [(0, gA n0 0), (2, gJ b), (3, gJ v1), (4, gJ v2)] [] := by
    intro N34; induction N34 with
    | zero => intro v1 v2 rv1 rv2 hm36; exfalso; omega
    | succ N34 ih35 =>
      intro v1 v2 rv1 rv2 hm36
      refine g_iload (n := 7) X 3 dX11_sumOfTry_5 rfl rfl ?_
      refine g_aload_n (n := 8) X 0 dX11_sumOfTry_7 rfl rfl rfl ?_
      refine gg_11_0 (n := 11) (z := 1) X (by decide) (gsz hsz (by decide)) lay_0 kw_2_231 dX11_sumOfTry_8 rfl (rf_0_0 I (gsz hsz (by decide))) (by decide) ?_
      obtain ⟨v37, hv37, rv37⟩ := gRd I (by decide) (gsz hsz (by decide)) rc_1_15.1
      refine gg_9_15 (n := 14) (z := v37) X (by decide) (gsz hsz (by decide)) lay_1 kw_2_139 dX11_sumOfTry_11 rfl hv37 ?_
      refine g_icmp_ge (n := 17) (tgt := 100) X dX11_sumOfTry_14 (by decide) (by omega) (by omega) rfl (fun c38 => ?_) (fun c38 => ?_)
      · refine g_iload_n (n := 101) X 2 dX11_sumOfTry_100 rfl rfl rfl ?_
        exact hq _ _ _ _ dX11_sumOfTry_101 ⟨rfl, by omega⟩
      · refine g_iload_n (n := 18) X 1 dX11_sumOfTry_17 rfl rfl rfl ?_
        by_cases c39 : b = 0
        · refine g_lookup (off := 26) (tgt := 44) X dX11_sumOfTry_18 (by omega) (by decide) (by show Op.lookupswitch.offset [(0, 26), (1, 45)] 64 b = 26; rw [Op.lookupswitch.offset_cons, if_pos (by omega)]) (by decide) ?_
          refine g_iload_n (n := 45) X 2 dX11_sumOfTry_44 rfl rfl rfl ?_
          refine g_aload_n (n := 46) X 0 dX11_sumOfTry_45 rfl rfl rfl ?_
          refine gg_11_0 (n := 49) (z := 1) X (by decide) (gsz hsz (by decide)) lay_0 kw_2_231 dX11_sumOfTry_46 rfl (rf_0_0 I (gsz hsz (by decide))) (by decide) ?_
          refine gg_9_7 (n := 52) (z := 23) X (by decide) (gsz hsz (by decide)) lay_1 kw_2_121 dX11_sumOfTry_49 rfl (rf_1_7 I (gsz hsz (by decide))) (by decide) ?_
          refine g_iload (n := 54) X 3 dX11_sumOfTry_52 rfl rfl ?_
          refine g_iconst (n := 55) X dX11_sumOfTry_54 rfl ?_
          refine g_callVi (n := 58) (As := [gJ v2, gJ 4]) (rest := [gJ v1]) (cs1 := 0) (ss1 := 0) X (s_X5_sum v2 (by omega) 4 (by omega) hsz I C ) okX5_sum kw_5_19 ⟨kw_4_178, kw_4_179⟩ ⟨rfl, rfl⟩ ⟨Nat.le_of_ble_eq_true rfl, Nat.le_of_ble_eq_true rfl⟩ rfl (by decide) (gsz hsz (by decide)) lay_23 rfl rfl (Nat.le_of_ble_eq_true rfl) ⟨Nat.le_of_ble_eq_true rfl, Nat.le_of_ble_eq_true rfl⟩ rfl rfl dX11_sumOfTry_55 rfl (fun v40 M41 P42 => ?_)
          obtain ⟨rfl, rv40⟩ := P42
          refine g_iaddA (n := 59) X dX11_sumOfTry_58 rfl (fun v43 rv43 xv43 => ?_)
          clear xv43
          refine g_istore_n (n := 60) (L' := [(3, gJ v43), (0, gA n0 0), (2, gJ b), (4, gJ v2)]) X dX11_sumOfTry_59 rfl (by decide) rfl rfl ?_
          refine g_goto (tgt := 94) X dX11_sumOfTry_60 (by decide) ?_
          refine g_iinc (n := 97) (w := v2 + 1) (L' := [(4, gJ (v2 + 1)), (3, gJ v43), (0, gA n0 0), (2, gJ b)]) X 3 dX11_sumOfTry_94 rfl rfl (by decide) rfl rfl ?_
          refine g_goto (tgt := 5) X dX11_sumOfTry_97 (by decide) ?_
          refine G.sub (L' := [(0, gA n0 0), (2, gJ b), (3, gJ v43), (4, gJ (v2 + 1))]) [2, 3, 1, 0] rfl ?_
          exact ih35 v43 (v2 + 1) (by omega) (by omega) (by omega)
        by_cases c44 : b = 1
        · refine g_lookup (off := 45) (tgt := 63) X dX11_sumOfTry_18 (by omega) (by decide) (by show Op.lookupswitch.offset [(0, 26), (1, 45)] 64 b = 45; rw [Op.lookupswitch.offset_cons, if_neg (by omega), Op.lookupswitch.offset_cons, if_pos (by omega)]) (by decide) ?_
          refine g_iload_n (n := 64) X 2 dX11_sumOfTry_63 rfl rfl rfl ?_
          refine g_aload_n (n := 65) X 0 dX11_sumOfTry_64 rfl rfl rfl ?_
          refine gg_11_0 (n := 68) (z := 1) X (by decide) (gsz hsz (by decide)) lay_0 kw_2_231 dX11_sumOfTry_65 rfl (rf_0_0 I (gsz hsz (by decide))) (by decide) ?_
          refine gg_9_7 (n := 71) (z := 23) X (by decide) (gsz hsz (by decide)) lay_1 kw_2_121 dX11_sumOfTry_68 rfl (rf_1_7 I (gsz hsz (by decide))) (by decide) ?_
          refine g_iload (n := 73) X 3 dX11_sumOfTry_71 rfl rfl ?_
          refine g_iconst (n := 74) X dX11_sumOfTry_73 rfl ?_
          refine g_callVi (n := 77) (As := [gJ v2, gJ 2]) (rest := [gJ v1]) (cs1 := 0) (ss1 := 0) X (s_X5_sum v2 (by omega) 2 (by omega) hsz I C ) okX5_sum kw_5_19 ⟨kw_4_178, kw_4_179⟩ ⟨rfl, rfl⟩ ⟨Nat.le_of_ble_eq_true rfl, Nat.le_of_ble_eq_true rfl⟩ rfl (by decide) (gsz hsz (by decide)) lay_23 rfl rfl (Nat.le_of_ble_eq_true rfl) ⟨Nat.le_of_ble_eq_true rfl, Nat.le_of_ble_eq_true rfl⟩ rfl rfl dX11_sumOfTry_74 rfl (fun v45 M46 P47 => ?_)
          obtain ⟨rfl, rv45⟩ := P47
          refine g_iaddA (n := 78) X dX11_sumOfTry_77 rfl (fun v48 rv48 xv48 => ?_)
          clear xv48
          refine g_istore_n (n := 79) (L' := [(3, gJ v48), (0, gA n0 0), (2, gJ b), (4, gJ v2)]) X dX11_sumOfTry_78 rfl (by decide) rfl rfl ?_
          refine g_goto (tgt := 94) X dX11_sumOfTry_79 (by decide) ?_
          refine g_iinc (n := 97) (w := v2 + 1) (L' := [(4, gJ (v2 + 1)), (3, gJ v48), (0, gA n0 0), (2, gJ b)]) X 3 dX11_sumOfTry_94 rfl rfl (by decide) rfl rfl ?_
          refine g_goto (tgt := 5) X dX11_sumOfTry_97 (by decide) ?_
          refine G.sub (L' := [(0, gA n0 0), (2, gJ b), (3, gJ v48), (4, gJ (v2 + 1))]) [2, 3, 1, 0] rfl ?_
          exact ih35 v48 (v2 + 1) (by omega) (by omega) (by omega)
        refine g_lookup (off := 64) (tgt := 82) X dX11_sumOfTry_18 (by omega) (by decide) (by show Op.lookupswitch.offset [(0, 26), (1, 45)] 64 b = 64; rw [Op.lookupswitch.offset_cons, if_neg (by omega), Op.lookupswitch.offset_cons, if_neg (by omega), Op.lookupswitch.offset_nil]) (by decide) ?_
        refine g_iload_n (n := 83) X 2 dX11_sumOfTry_82 rfl rfl rfl ?_
        refine g_aload_n (n := 84) X 0 dX11_sumOfTry_83 rfl rfl rfl ?_
        refine gg_11_0 (n := 87) (z := 1) X (by decide) (gsz hsz (by decide)) lay_0 kw_2_231 dX11_sumOfTry_84 rfl (rf_0_0 I (gsz hsz (by decide))) (by decide) ?_
        refine g_iload (n := 89) X 3 dX11_sumOfTry_87 rfl rfl ?_
        refine g_callVi (n := 92) (As := [gJ v2]) (rest := [gJ v1]) (cs1 := 0) (ss1 := 0) X (s_X9_costOf v2 (by omega) hsz I C ) okX9_costOf kw_5_15 ⟨kw_5_16, kw_5_17⟩ ⟨rfl, rfl⟩ ⟨Nat.le_of_ble_eq_true rfl, Nat.le_of_ble_eq_true rfl⟩ rfl (by decide) (gsz hsz (by decide)) lay_1 rfl rfl (Nat.le_of_ble_eq_true rfl) ⟨Nat.le_of_ble_eq_true rfl, Nat.le_of_ble_eq_true rfl⟩ rfl rfl dX11_sumOfTry_89 rfl (fun v49 M50 P51 => ?_)
        obtain ⟨rfl, rv49⟩ := P51
        refine g_iaddA (n := 93) X dX11_sumOfTry_92 rfl (fun v52 rv52 xv52 => ?_)
        clear xv52
        refine g_istore_n (n := 94) (L' := [(3, gJ v52), (0, gA n0 0), (2, gJ b), (4, gJ v2)]) X dX11_sumOfTry_93 rfl (by decide) rfl rfl ?_
        refine g_iinc (n := 97) (w := v2 + 1) (L' := [(4, gJ (v2 + 1)), (3, gJ v52), (0, gA n0 0), (2, gJ b)]) X 3 dX11_sumOfTry_94 rfl rfl (by decide) rfl rfl ?_
        refine g_goto (tgt := 5) X dX11_sumOfTry_97 (by decide) ?_
        refine G.sub (L' := [(0, gA n0 0), (2, gJ b), (3, gJ v52), (4, gJ (v2 + 1))]) [2, 3, 1, 0] rfl ?_
        exact ih35 v52 (v2 + 1) (by omega) (by omega) (by omega)
  refine G.sub (L' := [(0, gA n0 0), (2, gJ b), (3, gJ 0), (4, gJ a)]) [2, 4, 1, 0] rfl ?_
  exact j4 _ 0 a (by omega) (by omega) (Nat.lt_succ_self _)
theorem dX9_tellRight_0 : decode cX9_tellRight 0 = .ok (.aload_n 0, 1) := dc_42 (by decide +kernel)
theorem dX9_tellRight_1 : decode cX9_tellRight 1 = .ok (.getfield 86, 3) := dc_180 0 86 (by decide +kernel)
theorem kw_2_129 : (Jvm.Cond.fieldLink "ParishUnion$Union" (86 : Nat) "ParishUnion$Union" "rightCount" "I") ∈ gT := gT_of (tb_2 _ (List.mem_of_getElem? (i := 129) rfl)) rfl
theorem dX9_tellRight_4 : decode cX9_tellRight 4 = .ok (.bipush 40, 2) := dc_16 40 40 (by decide +kernel)
theorem dX9_tellRight_6 : decode cX9_tellRight 6 = .ok (.if_icmp .ge 12, 3) := dc_162 0 12 12 (by decide +kernel)
theorem dX9_tellRight_18 : decode cX9_tellRight 18 = .ok (.bipush (-4), 2) := dc_16 252 (-4) (by decide +kernel)
theorem dX9_tellRight_20 : decode cX9_tellRight 20 = .ok (.ireturn, 1) := dc_172 (by decide +kernel)
theorem dX9_tellRight_9 : decode cX9_tellRight 9 = .ok (.aload_n 0, 1) := dc_42 (by decide +kernel)
theorem dX9_tellRight_10 : decode cX9_tellRight 10 = .ok (.getfield 119, 3) := dc_180 0 119 (by decide +kernel)
theorem kw_2_132 : (Jvm.Cond.fieldLink "ParishUnion$Union" (119 : Nat) "ParishUnion$Union" "entries" "I") ∈ gT := gT_of (tb_2 _ (List.mem_of_getElem? (i := 132) rfl)) rfl
theorem dX9_tellRight_13 : decode cX9_tellRight 13 = .ok (.bipush 80, 2) := dc_16 80 80 (by decide +kernel)
theorem dX9_tellRight_15 : decode cX9_tellRight 15 = .ok (.if_icmp .lt 6, 3) := dc_161 0 6 6 (by decide +kernel)
theorem dX9_tellRight_21 : decode cX9_tellRight 21 = .ok (.aload_n 0, 1) := dc_42 (by decide +kernel)
theorem dX9_tellRight_22 : decode cX9_tellRight 22 = .ok (.getfield 26, 3) := dc_180 0 26 (by decide +kernel)
theorem kw_2_109 : (Jvm.Cond.fieldLink "ParishUnion$Union" (26 : Nat) "ParishUnion$Union" "rights" "[LParishUnion$Right;") ∈ gT := gT_of (tb_2 _ (List.mem_of_getElem? (i := 109) rfl)) rfl
theorem dX9_tellRight_25 : decode cX9_tellRight 25 = .ok (.aload_n 0, 1) := dc_42 (by decide +kernel)
theorem dX9_tellRight_26 : decode cX9_tellRight 26 = .ok (.getfield 86, 3) := dc_180 0 86 (by decide +kernel)
theorem dX9_tellRight_29 : decode cX9_tellRight 29 = .ok (.aaload, 1) := dc_50 (by decide +kernel)
theorem dX9_tellRight_30 : decode cX9_tellRight 30 = .ok (.astore 7, 2) := dc_58 7 (by decide +kernel)
theorem dX9_tellRight_32 : decode cX9_tellRight 32 = .ok (.aload 7, 2) := dc_25 7 (by decide +kernel)
theorem dX9_tellRight_34 : decode cX9_tellRight 34 = .ok (.iload_n 1, 1) := dc_27 (by decide +kernel)
theorem dX9_tellRight_35 : decode cX9_tellRight 35 = .ok (.iload_n 2, 1) := dc_28 (by decide +kernel)
theorem dX9_tellRight_36 : decode cX9_tellRight 36 = .ok (.iload_n 3, 1) := dc_29 (by decide +kernel)
theorem dX9_tellRight_37 : decode cX9_tellRight 37 = .ok (.iload 4, 2) := dc_21 4 (by decide +kernel)
theorem dX9_tellRight_39 : decode cX9_tellRight 39 = .ok (.iload 5, 2) := dc_21 5 (by decide +kernel)
theorem dX9_tellRight_41 : decode cX9_tellRight 41 = .ok (.invokevirtual 125, 3) := dc_182 0 125 (by decide +kernel)
theorem kw_3_80 : (Jvm.Cond.methodLink "ParishUnion$Union" (125 : Nat) ({ cls := "ParishUnion$Right", name := "begin", desc := "(IIIII)V" } : Jvm.MethodName)) ∈ gT := gT_of (tb_3 _ (List.mem_of_getElem? (i := 80) rfl)) rfl
theorem kw_3_83 : (Jvm.Cond.code ({ cls := "ParishUnion$Right", name := "begin", desc := "(IIIII)V" } : Jvm.MethodName) prog_10_method_2_code (6 : Nat) (Option.none : Option Jvm.ClassFile.FieldType)) ∈ gT := gT_of (tb_3 _ (List.mem_of_getElem? (i := 83) rfl)) rfl
theorem okX8_begin : gQok yX8_begin cX8_begin 6 (Option.none : Option Jvm.ClassFile.FieldType) 5 := ⟨kw_3_83, kw_1_9, by decide +kernel, by decide +kernel, by decide +kernel⟩
theorem kw_3_81 : (Jvm.Cond.instanceMethod ({ cls := "ParishUnion$Right", name := "begin", desc := "(IIIII)V" } : Jvm.MethodName)) ∈ gT := gT_of (tb_3 _ (List.mem_of_getElem? (i := 81) rfl)) rfl
theorem kw_3_82 : (Jvm.Cond.selects "ParishUnion$Right" ({ cls := "ParishUnion$Right", name := "begin", desc := "(IIIII)V" } : Jvm.MethodName) ({ cls := "ParishUnion$Right", name := "begin", desc := "(IIIII)V" } : Jvm.MethodName)) ∈ gT := gT_of (tb_3 _ (List.mem_of_getElem? (i := 82) rfl)) rfl
theorem dX9_tellRight_44 : decode cX9_tellRight 44 = .ok (.aload 7, 2) := dc_25 7 (by decide +kernel)
theorem dX9_tellRight_46 : decode cX9_tellRight 46 = .ok (.iload 6, 2) := dc_21 6 (by decide +kernel)
theorem dX9_tellRight_48 : decode cX9_tellRight 48 = .ok (.putfield 129, 3) := dc_181 0 129 (by decide +kernel)
theorem kw_2_39 : (Jvm.Cond.fieldLink "ParishUnion$Union" (129 : Nat) "ParishUnion$Right" "sure" "Z") ∈ gT := gT_of (tb_2 _ (List.mem_of_getElem? (i := 39) rfl)) rfl
theorem dX9_tellRight_51 : decode cX9_tellRight 51 = .ok (.aload 7, 2) := dc_25 7 (by decide +kernel)
theorem dX9_tellRight_53 : decode cX9_tellRight 53 = .ok (.aload_n 0, 1) := dc_42 (by decide +kernel)
theorem dX9_tellRight_54 : decode cX9_tellRight 54 = .ok (.getfield 119, 3) := dc_180 0 119 (by decide +kernel)
theorem dX9_tellRight_57 : decode cX9_tellRight 57 = .ok (.putfield 133, 3) := dc_181 0 133 (by decide +kernel)
theorem kw_2_42 : (Jvm.Cond.fieldLink "ParishUnion$Union" (133 : Nat) "ParishUnion$Right" "toldEntry" "I") ∈ gT := gT_of (tb_2 _ (List.mem_of_getElem? (i := 42) rfl)) rfl
theorem dX9_tellRight_60 : decode cX9_tellRight 60 = .ok (.aload_n 0, 1) := dc_42 (by decide +kernel)
theorem dX9_tellRight_61 : decode cX9_tellRight 61 = .ok (.dup, 1) := dc_89 (by decide +kernel)
theorem dX9_tellRight_62 : decode cX9_tellRight 62 = .ok (.getfield 119, 3) := dc_180 0 119 (by decide +kernel)
theorem dX9_tellRight_65 : decode cX9_tellRight 65 = .ok (.iconst 1, 1) := dc_4 (by decide +kernel)
theorem dX9_tellRight_66 : decode cX9_tellRight 66 = .ok (.iadd, 1) := dc_96 (by decide +kernel)
theorem dX9_tellRight_67 : decode cX9_tellRight 67 = .ok (.putfield 119, 3) := dc_181 0 119 (by decide +kernel)
theorem dX9_tellRight_70 : decode cX9_tellRight 70 = .ok (.aload_n 0, 1) := dc_42 (by decide +kernel)
theorem dX9_tellRight_71 : decode cX9_tellRight 71 = .ok (.dup, 1) := dc_89 (by decide +kernel)
theorem dX9_tellRight_72 : decode cX9_tellRight 72 = .ok (.getfield 86, 3) := dc_180 0 86 (by decide +kernel)
theorem dX9_tellRight_75 : decode cX9_tellRight 75 = .ok (.dup_x1, 1) := dc_90 (by decide +kernel)
theorem dX9_tellRight_76 : decode cX9_tellRight 76 = .ok (.iconst 1, 1) := dc_4 (by decide +kernel)
theorem dX9_tellRight_77 : decode cX9_tellRight 77 = .ok (.iadd, 1) := dc_96 (by decide +kernel)
theorem dX9_tellRight_78 : decode cX9_tellRight 78 = .ok (.putfield 86, 3) := dc_181 0 86 (by decide +kernel)
theorem dX9_tellRight_81 : decode cX9_tellRight 81 = .ok (.ireturn, 1) := dc_172 (by decide +kernel)
abbrev R_X9_tellRight : Room := { frames := 1, cells := 0, slots := 0, locals := 25 }
set_option maxRecDepth 100000 in
set_option maxHeartbeats 4000000 in
theorem s_X9_tellRight {l : Launch} {n0 : Nat} {D : va_G} {cA : Nat → ClassId} {M : gM} (a : Int) (r_a : 1 ≤ a ∧ a ≤ 4) (b : Int) (r_b : 0 ≤ b ∧ b ≤ 15) (c : Int) (r_c : 0 ≤ c ∧ c ≤ 15) (d : Int) (r_d : 0 ≤ d ∧ d ≤ 9999) (f : Int) (r_f : -3000 ≤ f ∧ f ≤ 300) (g : Int) (r_g : 0 ≤ g ∧ g ≤ 1) {sz : Nat} (hsz : 206 ≤ sz) (I : gI sz M) (C : gC sz M) (hk : a = 3 ∨ c ≤ 5)  : Met l yX9_tellRight (gWsOf yX9_tellRight cX9_tellRight 8 (Option.some Jvm.ClassFile.FieldType.int)) R_X9_tellRight (gPc n0 D cA [gA n0 1, gJ a, gJ b, gJ c, gJ d, gJ f, gJ g] M sz) (gQi n0 D cA sz (fun z M1 => (-4 ≤ z ∧ z ≤ 39) ∧ gI sz M1 ∧ gC sz M1 ∧ gFr 1237940039285380274901221504 M M1 ∧ (pTellX a b c d f g z M M1))) 0 0 (fun q => n0 ≤ q) := by
  refine gMetI [gA n0 1, gJ a, gJ b, gJ c, gJ d, gJ f, gJ g] (by decide) (Nat.le_of_ble_eq_true rfl) ⟨rfl, rfl⟩ ?_
  intro p e s m args below meth cd Q X hq
  have X : gCx p s m args meth cd n0 D cA "ParishUnion$Union" cX9_tellRight 8 := X
  show G p l e R_X9_tellRight s m args below meth cd n0 D cA 8 Q 0 0 M sz 0 [(0, gA n0 1), (1, gJ a), (2, gJ b), (3, gJ c), (4, gJ d), (5, gJ f), (6, gJ g)] []
  obtain ⟨v1, hv1, rv1⟩ := gRd I (by decide) (gsz hsz (by decide)) rc_1_11.1
  obtain ⟨v2, hv2, rv2⟩ := gRd I (by decide) (gsz hsz (by decide)) rc_1_12.1
  refine g_aload_n (n := 1) X 0 dX9_tellRight_0 rfl rfl rfl ?_
  refine gg_9_11 (n := 4) (z := v1) X (by decide) (gsz hsz (by decide)) lay_1 kw_2_129 dX9_tellRight_1 rfl hv1 ?_
  refine g_bipush (n := 6) X dX9_tellRight_4 (by decide +kernel) rfl ?_
  refine g_icmp_ge (n := 9) (tgt := 18) X dX9_tellRight_6 (by decide) (by omega) (by omega) rfl (fun c3 => ?_) (fun c3 => ?_)
  · refine g_bipush (n := 20) X dX9_tellRight_18 (by decide +kernel) rfl ?_
    exact hq _ _ _ _ dX9_tellRight_20 ⟨by omega, I, C, gFr.rf, Or.inl ⟨by omega, by omega, pSameX.rf⟩⟩
  · refine g_aload_n (n := 10) X 0 dX9_tellRight_9 rfl rfl rfl ?_
    refine gg_9_12 (n := 13) (z := v2) X (by decide) (gsz hsz (by decide)) lay_1 kw_2_132 dX9_tellRight_10 rfl hv2 ?_
    refine g_bipush (n := 15) X dX9_tellRight_13 (by decide +kernel) rfl ?_
    refine g_icmp_lt (n := 18) (tgt := 21) X dX9_tellRight_15 (by decide) (by omega) (by omega) rfl (fun c4 => ?_) (fun c4 => ?_)
    · refine g_aload_n (n := 22) X 0 dX9_tellRight_21 rfl rfl rfl ?_
      refine gg_9_2 (n := 25) (z := 6) X (by decide) (gsz hsz (by decide)) lay_1 kw_2_109 dX9_tellRight_22 rfl (rf_1_2 I (gsz hsz (by decide))) (by decide) ?_
      refine g_aload_n (n := 26) X 0 dX9_tellRight_25 rfl rfl rfl ?_
      refine gg_9_11 (n := 29) (z := v1) X (by decide) (gsz hsz (by decide)) lay_1 kw_2_129 dX9_tellRight_26 rfl hv1 ?_
      obtain ⟨o5, ho5, ro5⟩ : ∃ o : Int, o = 47 + v1 ∧ (47 ≤ o ∧ o < 87) := ⟨_, rfl, by omega⟩
      refine g_aald7 (n := 30) (t := o5) X (by decide) (gsz hsz (by decide)) lay_6 (by omega) (by omega) (by decide) (gA6 I hsz (by omega) (by omega) (by omega)) (by omega) dX9_tellRight_29 rfl ?_
      refine g_astore (n := 32) (L' := [(7, gA n0 o5), (0, gA n0 1), (1, gJ a), (2, gJ b), (3, gJ c), (4, gJ d), (5, gJ f), (6, gJ g)]) X dX9_tellRight_30 (by decide) rfl rfl ?_
      refine g_aload (n := 34) X 0 dX9_tellRight_32 rfl rfl ?_
      refine g_iload_n (n := 35) X 2 dX9_tellRight_34 rfl rfl rfl ?_
      refine g_iload_n (n := 36) X 3 dX9_tellRight_35 rfl rfl rfl ?_
      refine g_iload_n (n := 37) X 4 dX9_tellRight_36 rfl rfl rfl ?_
      refine g_iload (n := 39) X 5 dX9_tellRight_37 rfl rfl ?_
      refine g_iload (n := 41) X 6 dX9_tellRight_39 rfl rfl ?_
      refine g_callVv (n := 44) (As := [gJ a, gJ b, gJ c, gJ d, gJ f]) (rest := []) (cs1 := 0) (ss1 := 0) X (s_X8_begin o5 ro5 a (by omega) b (by omega) c (by omega) d (by omega) f (by omega) hsz I C (by omega)) okX8_begin kw_3_80 ⟨kw_3_81, kw_3_82⟩ ⟨rfl, rfl⟩ ⟨Nat.le_of_ble_eq_true rfl, Nat.le_of_ble_eq_true rfl⟩ rfl (Rto0 ro5) (Rtosz hsz ro5) (lay2_R ro5) rfl rfl (Nat.le_of_ble_eq_true rfl) ⟨Nat.le_of_ble_eq_true rfl, Nat.le_of_ble_eq_true rfl⟩ rfl rfl dX9_tellRight_41 rfl (fun M7 P8 => ?_)
      obtain ⟨M9, e10, M11, e12, M13, e14, M15, e16, M17, e18, M19, e20, M21, e22, rfl⟩ := P8
      have IM9 : gI sz M9 := gI.set I (rR_0 ro5).1 (by omega) e10
      have IM11 : gI sz M11 := gI.set IM9 (rR_1 ro5).1 (by omega) e12
      have IM13 : gI sz M13 := gI.set IM11 (rR_2 ro5).1 (by omega) e14
      have IM15 : gI sz M15 := gI.set IM13 (rR_3 ro5).1 (by omega) e16
      have IM17 : gI sz M17 := gI.set IM15 (rR_4 ro5).1 (by omega) e18
      have IM19 : gI sz M19 := gI.set IM17 (rR_7 ro5).1 (by omega) e20
      have IM21 : gI sz M21 := gI.set IM19 (rR_8 ro5).1 (by omega) e22
      refine g_aload (n := 46) X 0 dX9_tellRight_44 rfl rfl ?_
      refine g_iload (n := 48) X 7 dX9_tellRight_46 rfl rfl ?_
      refine gp_8_5 (n := 51) X (Rto0 ro5) (Rtosz hsz ro5) (lay2_R ro5) kw_2_39 (by omega) dX9_tellRight_48 rfl ?_
      refine G.nm (fun M23 e24 => ?_)
      have IM23 : gI sz M23 := gI.set IM21 (rR_5 ro5).1 (by omega) e24
      refine g_aload (n := 53) X 0 dX9_tellRight_51 rfl rfl ?_
      refine g_aload_n (n := 54) X 1 dX9_tellRight_53 rfl rfl rfl ?_
      refine gg_9_12 (n := 57) (z := v2) X (by decide) (gsz hsz (by decide)) lay_1 kw_2_132 dX9_tellRight_54 rfl ((congrFun (congrFun e24 _) _).trans ((gset_ne (by omega)).trans ((congrFun (congrFun e22 _) _).trans ((gset_ne (by omega)).trans ((congrFun (congrFun e20 _) _).trans ((gset_ne (by omega)).trans ((congrFun (congrFun e18 _) _).trans ((gset_ne (by omega)).trans ((congrFun (congrFun e16 _) _).trans ((gset_ne (by omega)).trans ((congrFun (congrFun e14 _) _).trans ((gset_ne (by omega)).trans ((congrFun (congrFun e12 _) _).trans ((gset_ne (by omega)).trans ((congrFun (congrFun e10 _) _).trans ((gset_ne (by omega)).trans hv2)))))))))))))))) ?_
      refine gp_8_6 (n := 60) X (Rto0 ro5) (Rtosz hsz ro5) (lay2_R ro5) kw_2_42 dX9_tellRight_57 rfl ?_
      refine G.nm (fun M25 e26 => ?_)
      have IM25 : gI sz M25 := gI.set IM23 (rR_6 ro5).1 (by omega) e26
      refine g_aload_n (n := 61) X 1 dX9_tellRight_60 rfl rfl rfl ?_
      refine g_dup (n := 62) X dX9_tellRight_61 rfl rfl ?_
      refine gg_9_12 (n := 65) (z := v2) X (by decide) (gsz hsz (by decide)) lay_1 kw_2_132 dX9_tellRight_62 rfl ((congrFun (congrFun e26 _) _).trans ((gset_ne (by omega)).trans ((congrFun (congrFun e24 _) _).trans ((gset_ne (by omega)).trans ((congrFun (congrFun e22 _) _).trans ((gset_ne (by omega)).trans ((congrFun (congrFun e20 _) _).trans ((gset_ne (by omega)).trans ((congrFun (congrFun e18 _) _).trans ((gset_ne (by omega)).trans ((congrFun (congrFun e16 _) _).trans ((gset_ne (by omega)).trans ((congrFun (congrFun e14 _) _).trans ((gset_ne (by omega)).trans ((congrFun (congrFun e12 _) _).trans ((gset_ne (by omega)).trans ((congrFun (congrFun e10 _) _).trans ((gset_ne (by omega)).trans hv2)))))))))))))))))) ?_
      refine g_iconst (n := 66) X dX9_tellRight_65 rfl ?_
      refine g_iadd (n := 67) (z := v2 + 1) X dX9_tellRight_66 (by omega) rfl ?_
      refine gp_9_12 (n := 70) X (by decide) (gsz hsz (by decide)) lay_1 kw_2_132 dX9_tellRight_67 rfl ?_
      have CM25 : gC sz M25 := gC.right C ro5 (fun a b h => ((congrFun (congrFun e26 a) b).trans ((gset_ne (fun q => h q.1)).trans ((congrFun (congrFun e24 a) b).trans ((gset_ne (fun q => h q.1)).trans ((congrFun (congrFun e22 a) b).trans ((gset_ne (fun q => h q.1)).trans ((congrFun (congrFun e20 a) b).trans ((gset_ne (fun q => h q.1)).trans ((congrFun (congrFun e18 a) b).trans ((gset_ne (fun q => h q.1)).trans ((congrFun (congrFun e16 a) b).trans ((gset_ne (fun q => h q.1)).trans ((congrFun (congrFun e14 a) b).trans ((gset_ne (fun q => h q.1)).trans ((congrFun (congrFun e12 a) b).trans ((gset_ne (fun q => h q.1)).trans ((congrFun (congrFun e10 a) b).trans ((gset_ne (fun q => h q.1)).trans rfl))))))))))))))))))) (by have q0 : M25 o5 0 = a := ((congrFun (congrFun e26 _) _).trans ((gset_ne (by omega)).trans ((congrFun (congrFun e24 _) _).trans ((gset_ne (by omega)).trans ((congrFun (congrFun e22 _) _).trans ((gset_ne (by omega)).trans ((congrFun (congrFun e20 _) _).trans ((gset_ne (by omega)).trans ((congrFun (congrFun e18 _) _).trans ((gset_ne (by omega)).trans ((congrFun (congrFun e16 _) _).trans ((gset_ne (by omega)).trans ((congrFun (congrFun e14 _) _).trans ((gset_ne (by omega)).trans ((congrFun (congrFun e12 _) _).trans ((gset_ne (by omega)).trans ((congrFun (congrFun e10 _) _).trans (gset_eq _ _ _ _)))))))))))))))))); have q2 : M25 o5 2 = c := ((congrFun (congrFun e26 _) _).trans ((gset_ne (by omega)).trans ((congrFun (congrFun e24 _) _).trans ((gset_ne (by omega)).trans ((congrFun (congrFun e22 _) _).trans ((gset_ne (by omega)).trans ((congrFun (congrFun e20 _) _).trans ((gset_ne (by omega)).trans ((congrFun (congrFun e18 _) _).trans ((gset_ne (by omega)).trans ((congrFun (congrFun e16 _) _).trans ((gset_ne (by omega)).trans ((congrFun (congrFun e14 _) _).trans (gset_eq _ _ _ _)))))))))))))); omega)
      refine G.nm (fun M27 e28 => ?_)
      have IM27 : gI sz M27 := gI.set IM25 rc_1_12.1 (by omega) e28
      have CM27 : gC sz M27 := gC.set CM25 rc_1_12.2.1 e28
      refine g_aload_n (n := 71) X 1 dX9_tellRight_70 rfl rfl rfl ?_
      refine g_dup (n := 72) X dX9_tellRight_71 rfl rfl ?_
      refine gg_9_11 (n := 75) (z := v1) X (by decide) (gsz hsz (by decide)) lay_1 kw_2_129 dX9_tellRight_72 rfl ((congrFun (congrFun e28 _) _).trans ((gset_ne (by omega)).trans ((congrFun (congrFun e26 _) _).trans ((gset_ne (by omega)).trans ((congrFun (congrFun e24 _) _).trans ((gset_ne (by omega)).trans ((congrFun (congrFun e22 _) _).trans ((gset_ne (by omega)).trans ((congrFun (congrFun e20 _) _).trans ((gset_ne (by omega)).trans ((congrFun (congrFun e18 _) _).trans ((gset_ne (by omega)).trans ((congrFun (congrFun e16 _) _).trans ((gset_ne (by omega)).trans ((congrFun (congrFun e14 _) _).trans ((gset_ne (by omega)).trans ((congrFun (congrFun e12 _) _).trans ((gset_ne (by omega)).trans ((congrFun (congrFun e10 _) _).trans ((gset_ne (by omega)).trans hv1)))))))))))))))))))) ?_
      refine g_dup_x1 (n := 76) X dX9_tellRight_75 rfl rfl rfl ?_
      refine g_iconst (n := 77) X dX9_tellRight_76 rfl ?_
      refine g_iadd (n := 78) (z := v1 + 1) X dX9_tellRight_77 (by omega) rfl ?_
      refine gp_9_11 (n := 81) X (by decide) (gsz hsz (by decide)) lay_1 kw_2_129 dX9_tellRight_78 rfl ?_
      refine G.nm (fun M29 e30 => ?_)
      have IM29 : gI sz M29 := gI.set IM27 rc_1_11.1 (by omega) e30
      have CM29 : gC sz M29 := gC.set CM27 rc_1_11.2.1 e30
      exact hq _ _ _ _ dX9_tellRight_81 ⟨by omega, IM29, CM29, (gFr.s (gFr.s (gFr.s (gFr.s (gFr.s (gFr.s (gFr.s (gFr.s (gFr.s (gFr.s (gFr.s gFr.rf e10 (rR_0 ro5).2.2 rfl) e12 (rR_1 ro5).2.2 rfl) e14 (rR_2 ro5).2.2 rfl) e16 (rR_3 ro5).2.2 rfl) e18 (rR_4 ro5).2.2 rfl) e20 (rR_7 ro5).2.2 rfl) e22 (rR_8 ro5).2.2 rfl) e24 (rR_5 ro5).2.2 rfl) e26 (rR_6 ro5).2.2 rfl) e28 rc_1_12.2.2 rfl) e30 rc_1_11.2.2 rfl), Or.inr ⟨⟨by omega, by omega⟩, ⟨by have q := ((congrFun (congrFun e30 _) _).trans (gset_eq _ _ _ _)); omega, by have q := ((congrFun (congrFun e30 _) _).trans ((gset_ne (by omega)).trans ((congrFun (congrFun e28 _) _).trans (gset_eq _ _ _ _)))); omega⟩, (fun r k h0 h1 h2 h3 hp => ((congrFun (congrFun e30 _) _).trans ((gset_ne (by omega)).trans ((congrFun (congrFun e28 _) _).trans ((gset_ne (by omega)).trans ((congrFun (congrFun e26 _) _).trans ((gset_ne (by omega)).trans ((congrFun (congrFun e24 _) _).trans ((gset_ne (by omega)).trans ((congrFun (congrFun e22 _) _).trans ((gset_ne (by omega)).trans ((congrFun (congrFun e20 _) _).trans ((gset_ne (by omega)).trans ((congrFun (congrFun e18 _) _).trans ((gset_ne (by omega)).trans ((congrFun (congrFun e16 _) _).trans ((gset_ne (by omega)).trans ((congrFun (congrFun e14 _) _).trans ((gset_ne (by omega)).trans ((congrFun (congrFun e12 _) _).trans ((gset_ne (by omega)).trans ((congrFun (congrFun e10 _) _).trans ((gset_ne (by omega)).trans rfl))))))))))))))))))))))), (by rw [hv1, ← ho5]; exact ((congrFun (congrFun e30 _) _).trans ((gset_ne (by omega)).trans ((congrFun (congrFun e28 _) _).trans ((gset_ne (by omega)).trans ((congrFun (congrFun e26 _) _).trans ((gset_ne (by omega)).trans ((congrFun (congrFun e24 _) _).trans ((gset_ne (by omega)).trans ((congrFun (congrFun e22 _) _).trans ((gset_ne (by omega)).trans ((congrFun (congrFun e20 _) _).trans ((gset_ne (by omega)).trans ((congrFun (congrFun e18 _) _).trans ((gset_ne (by omega)).trans ((congrFun (congrFun e16 _) _).trans ((gset_ne (by omega)).trans ((congrFun (congrFun e14 _) _).trans ((gset_ne (by omega)).trans ((congrFun (congrFun e12 _) _).trans ((gset_ne (by omega)).trans ((congrFun (congrFun e10 _) _).trans (gset_eq _ _ _ _))))))))))))))))))))))), (by rw [hv1, ← ho5]; exact ((congrFun (congrFun e30 _) _).trans ((gset_ne (by omega)).trans ((congrFun (congrFun e28 _) _).trans ((gset_ne (by omega)).trans ((congrFun (congrFun e26 _) _).trans ((gset_ne (by omega)).trans ((congrFun (congrFun e24 _) _).trans ((gset_ne (by omega)).trans ((congrFun (congrFun e22 _) _).trans ((gset_ne (by omega)).trans ((congrFun (congrFun e20 _) _).trans ((gset_ne (by omega)).trans ((congrFun (congrFun e18 _) _).trans ((gset_ne (by omega)).trans ((congrFun (congrFun e16 _) _).trans ((gset_ne (by omega)).trans ((congrFun (congrFun e14 _) _).trans ((gset_ne (by omega)).trans ((congrFun (congrFun e12 _) _).trans (gset_eq _ _ _ _))))))))))))))))))))), (by rw [hv1, ← ho5]; exact ((congrFun (congrFun e30 _) _).trans ((gset_ne (by omega)).trans ((congrFun (congrFun e28 _) _).trans ((gset_ne (by omega)).trans ((congrFun (congrFun e26 _) _).trans ((gset_ne (by omega)).trans ((congrFun (congrFun e24 _) _).trans ((gset_ne (by omega)).trans ((congrFun (congrFun e22 _) _).trans ((gset_ne (by omega)).trans ((congrFun (congrFun e20 _) _).trans ((gset_ne (by omega)).trans ((congrFun (congrFun e18 _) _).trans ((gset_ne (by omega)).trans ((congrFun (congrFun e16 _) _).trans ((gset_ne (by omega)).trans ((congrFun (congrFun e14 _) _).trans (gset_eq _ _ _ _))))))))))))))))))), (by rw [hv1, ← ho5]; exact ((congrFun (congrFun e30 _) _).trans ((gset_ne (by omega)).trans ((congrFun (congrFun e28 _) _).trans ((gset_ne (by omega)).trans ((congrFun (congrFun e26 _) _).trans ((gset_ne (by omega)).trans ((congrFun (congrFun e24 _) _).trans ((gset_ne (by omega)).trans ((congrFun (congrFun e22 _) _).trans ((gset_ne (by omega)).trans ((congrFun (congrFun e20 _) _).trans ((gset_ne (by omega)).trans ((congrFun (congrFun e18 _) _).trans ((gset_ne (by omega)).trans ((congrFun (congrFun e16 _) _).trans (gset_eq _ _ _ _))))))))))))))))), (by rw [hv1, ← ho5]; exact ((congrFun (congrFun e30 _) _).trans ((gset_ne (by omega)).trans ((congrFun (congrFun e28 _) _).trans ((gset_ne (by omega)).trans ((congrFun (congrFun e26 _) _).trans ((gset_ne (by omega)).trans ((congrFun (congrFun e24 _) _).trans ((gset_ne (by omega)).trans ((congrFun (congrFun e22 _) _).trans ((gset_ne (by omega)).trans ((congrFun (congrFun e20 _) _).trans ((gset_ne (by omega)).trans ((congrFun (congrFun e18 _) _).trans (gset_eq _ _ _ _))))))))))))))), (by rw [hv1, ← ho5]; exact ((congrFun (congrFun e30 _) _).trans ((gset_ne (by omega)).trans ((congrFun (congrFun e28 _) _).trans ((gset_ne (by omega)).trans ((congrFun (congrFun e26 _) _).trans ((gset_ne (by omega)).trans ((congrFun (congrFun e24 _) _).trans (gset_eq _ _ _ _))))))))), (by rw [hv1, hv2, ← ho5]; exact ((congrFun (congrFun e30 _) _).trans ((gset_ne (by omega)).trans ((congrFun (congrFun e28 _) _).trans ((gset_ne (by omega)).trans ((congrFun (congrFun e26 _) _).trans (gset_eq _ _ _ _))))))), (by rw [hv1, ← ho5]; exact ((congrFun (congrFun e30 _) _).trans ((gset_ne (by omega)).trans ((congrFun (congrFun e28 _) _).trans ((gset_ne (by omega)).trans ((congrFun (congrFun e26 _) _).trans ((gset_ne (by omega)).trans ((congrFun (congrFun e24 _) _).trans ((gset_ne (by omega)).trans ((congrFun (congrFun e22 _) _).trans ((gset_ne (by omega)).trans ((congrFun (congrFun e20 _) _).trans (gset_eq _ _ _ _))))))))))))), (by rw [hv1, ← ho5]; exact ((congrFun (congrFun e30 _) _).trans ((gset_ne (by omega)).trans ((congrFun (congrFun e28 _) _).trans ((gset_ne (by omega)).trans ((congrFun (congrFun e26 _) _).trans ((gset_ne (by omega)).trans ((congrFun (congrFun e24 _) _).trans ((gset_ne (by omega)).trans ((congrFun (congrFun e22 _) _).trans (gset_eq _ _ _ _)))))))))))⟩⟩
    · refine g_bipush (n := 20) X dX9_tellRight_18 (by decide +kernel) rfl ?_
      exact hq _ _ _ _ dX9_tellRight_20 ⟨by omega, I, C, gFr.rf, Or.inl ⟨by omega, by omega, pSameX.rf⟩⟩
theorem rc_26_3 : gRg 26 3 = (0, 40) ∧ gCr 26 3 = false ∧ gG 26 3 = 18 := by decide +kernel
theorem dX10_sleep_0 : decode cX10_sleep 0 = .ok (.aload_n 0, 1) := dc_42 (by decide +kernel)
theorem dX10_sleep_1 : decode cX10_sleep 1 = .ok (.getfield 27, 3) := dc_180 0 27 (by decide +kernel)
theorem kw_1_159 : (Jvm.Cond.fieldLink "ParishUnion$Vagrants" (27 : Nat) "ParishUnion$Vagrants" "count" "I") ∈ gT := gT_of (tb_1 _ (List.mem_of_getElem? (i := 159) rfl)) rfl
theorem dX10_sleep_4 : decode cX10_sleep 4 = .ok (.bipush 40, 2) := dc_16 40 40 (by decide +kernel)
theorem dX10_sleep_6 : decode cX10_sleep 6 = .ok (.if_icmp .lt 4, 3) := dc_161 0 4 4 (by decide +kernel)
theorem dX10_sleep_10 : decode cX10_sleep 10 = .ok (.aload_n 0, 1) := dc_42 (by decide +kernel)
theorem dX10_sleep_11 : decode cX10_sleep 11 = .ok (.getfield 27, 3) := dc_180 0 27 (by decide +kernel)
theorem dX10_sleep_14 : decode cX10_sleep 14 = .ok (.istore 4, 2) := dc_54 4 (by decide +kernel)
theorem dX10_sleep_16 : decode cX10_sleep 16 = .ok (.iload 4, 2) := dc_21 4 (by decide +kernel)
theorem dX10_sleep_18 : decode cX10_sleep 18 = .ok (.ifCond .le 70, 3) := dc_158 0 70 70 (by decide +kernel)
theorem dX10_sleep_88 : decode cX10_sleep 88 = .ok (.aload_n 0, 1) := dc_42 (by decide +kernel)
theorem dX10_sleep_89 : decode cX10_sleep 89 = .ok (.getfield 9, 3) := dc_180 0 9 (by decide +kernel)
theorem kw_1_156 : (Jvm.Cond.fieldLink "ParishUnion$Vagrants" (9 : Nat) "ParishUnion$Vagrants" "name" "[I") ∈ gT := gT_of (tb_1 _ (List.mem_of_getElem? (i := 156) rfl)) rfl
theorem rf_26_0 {sz : Nat} {M : gM} (I : gI sz M) (h : (26 : Int) < (sz : Int)) : M 26 0 = 27 + 1 := gI.rf I (by decide) h (by decide +kernel)
theorem dX10_sleep_92 : decode cX10_sleep 92 = .ok (.iload 4, 2) := dc_21 4 (by decide +kernel)
theorem dX10_sleep_94 : decode cX10_sleep 94 = .ok (.iload_n 1, 1) := dc_27 (by decide +kernel)
theorem dX10_sleep_95 : decode cX10_sleep 95 = .ok (.iastore, 1) := dc_79 (by decide +kernel)
theorem ra_27 (k : Int) : gRg 27 k = (0, 7) ∧ gCr 27 k = false ∧ gG 27 k = 17 := ⟨rfl, rfl, rfl⟩
theorem dX10_sleep_96 : decode cX10_sleep 96 = .ok (.aload_n 0, 1) := dc_42 (by decide +kernel)
theorem dX10_sleep_97 : decode cX10_sleep 97 = .ok (.getfield 15, 3) := dc_180 0 15 (by decide +kernel)
theorem kw_1_157 : (Jvm.Cond.fieldLink "ParishUnion$Vagrants" (15 : Nat) "ParishUnion$Vagrants" "parish" "[I") ∈ gT := gT_of (tb_1 _ (List.mem_of_getElem? (i := 157) rfl)) rfl
theorem rf_26_1 {sz : Nat} {M : gM} (I : gI sz M) (h : (26 : Int) < (sz : Int)) : M 26 1 = 28 + 1 := gI.rf I (by decide) h (by decide +kernel)
theorem dX10_sleep_100 : decode cX10_sleep 100 = .ok (.iload 4, 2) := dc_21 4 (by decide +kernel)
theorem dX10_sleep_102 : decode cX10_sleep 102 = .ok (.iload_n 2, 1) := dc_28 (by decide +kernel)
theorem dX10_sleep_103 : decode cX10_sleep 103 = .ok (.iastore, 1) := dc_79 (by decide +kernel)
theorem ra_28 (k : Int) : gRg 28 k = (0, 5) ∧ gCr 28 k = false ∧ gG 28 k = 17 := ⟨rfl, rfl, rfl⟩
theorem dX10_sleep_104 : decode cX10_sleep 104 = .ok (.aload_n 0, 1) := dc_42 (by decide +kernel)
theorem dX10_sleep_105 : decode cX10_sleep 105 = .ok (.getfield 18, 3) := dc_180 0 18 (by decide +kernel)
theorem kw_1_158 : (Jvm.Cond.fieldLink "ParishUnion$Vagrants" (18 : Nat) "ParishUnion$Vagrants" "week" "[I") ∈ gT := gT_of (tb_1 _ (List.mem_of_getElem? (i := 158) rfl)) rfl
theorem rf_26_2 {sz : Nat} {M : gM} (I : gI sz M) (h : (26 : Int) < (sz : Int)) : M 26 2 = 29 + 1 := gI.rf I (by decide) h (by decide +kernel)
theorem dX10_sleep_108 : decode cX10_sleep 108 = .ok (.iload 4, 2) := dc_21 4 (by decide +kernel)
theorem dX10_sleep_110 : decode cX10_sleep 110 = .ok (.iload_n 3, 1) := dc_29 (by decide +kernel)
theorem dX10_sleep_111 : decode cX10_sleep 111 = .ok (.iastore, 1) := dc_79 (by decide +kernel)
theorem ra_29 (k : Int) : gRg 29 k = (0, 300) ∧ gCr 29 k = false ∧ gG 29 k = 17 := ⟨rfl, rfl, rfl⟩
theorem dX10_sleep_112 : decode cX10_sleep 112 = .ok (.aload_n 0, 1) := dc_42 (by decide +kernel)
theorem dX10_sleep_113 : decode cX10_sleep 113 = .ok (.dup, 1) := dc_89 (by decide +kernel)
theorem dX10_sleep_114 : decode cX10_sleep 114 = .ok (.getfield 27, 3) := dc_180 0 27 (by decide +kernel)
theorem dX10_sleep_117 : decode cX10_sleep 117 = .ok (.iconst 1, 1) := dc_4 (by decide +kernel)
theorem dX10_sleep_118 : decode cX10_sleep 118 = .ok (.iadd, 1) := dc_96 (by decide +kernel)
theorem dX10_sleep_119 : decode cX10_sleep 119 = .ok (.putfield 27, 3) := dc_181 0 27 (by decide +kernel)
theorem dX10_sleep_122 : decode cX10_sleep 122 = .ok (.return_, 1) := dc_177 (by decide +kernel)
theorem dX10_sleep_21 : decode cX10_sleep 21 = .ok (.aload_n 0, 1) := dc_42 (by decide +kernel)
theorem dX10_sleep_22 : decode cX10_sleep 22 = .ok (.getfield 18, 3) := dc_180 0 18 (by decide +kernel)
theorem dX10_sleep_25 : decode cX10_sleep 25 = .ok (.iload 4, 2) := dc_21 4 (by decide +kernel)
theorem dX10_sleep_27 : decode cX10_sleep 27 = .ok (.iconst 1, 1) := dc_4 (by decide +kernel)
theorem dX10_sleep_28 : decode cX10_sleep 28 = .ok (.isub, 1) := dc_100 (by decide +kernel)
theorem dX10_sleep_29 : decode cX10_sleep 29 = .ok (.iaload, 1) := dc_46 (by decide +kernel)
theorem dX10_sleep_30 : decode cX10_sleep 30 = .ok (.iload_n 3, 1) := dc_29 (by decide +kernel)
theorem dX10_sleep_31 : decode cX10_sleep 31 = .ok (.if_icmp .le 57, 3) := dc_164 0 57 57 (by decide +kernel)
theorem dX10_sleep_34 : decode cX10_sleep 34 = .ok (.aload_n 0, 1) := dc_42 (by decide +kernel)
theorem dX10_sleep_35 : decode cX10_sleep 35 = .ok (.getfield 9, 3) := dc_180 0 9 (by decide +kernel)
theorem dX10_sleep_38 : decode cX10_sleep 38 = .ok (.iload 4, 2) := dc_21 4 (by decide +kernel)
theorem dX10_sleep_40 : decode cX10_sleep 40 = .ok (.aload_n 0, 1) := dc_42 (by decide +kernel)
theorem dX10_sleep_41 : decode cX10_sleep 41 = .ok (.getfield 9, 3) := dc_180 0 9 (by decide +kernel)
theorem dX10_sleep_44 : decode cX10_sleep 44 = .ok (.iload 4, 2) := dc_21 4 (by decide +kernel)
theorem dX10_sleep_46 : decode cX10_sleep 46 = .ok (.iconst 1, 1) := dc_4 (by decide +kernel)
theorem dX10_sleep_47 : decode cX10_sleep 47 = .ok (.isub, 1) := dc_100 (by decide +kernel)
theorem dX10_sleep_48 : decode cX10_sleep 48 = .ok (.iaload, 1) := dc_46 (by decide +kernel)
theorem dX10_sleep_49 : decode cX10_sleep 49 = .ok (.iastore, 1) := dc_79 (by decide +kernel)
theorem dX10_sleep_50 : decode cX10_sleep 50 = .ok (.aload_n 0, 1) := dc_42 (by decide +kernel)
theorem dX10_sleep_51 : decode cX10_sleep 51 = .ok (.getfield 15, 3) := dc_180 0 15 (by decide +kernel)
theorem dX10_sleep_54 : decode cX10_sleep 54 = .ok (.iload 4, 2) := dc_21 4 (by decide +kernel)
theorem dX10_sleep_56 : decode cX10_sleep 56 = .ok (.aload_n 0, 1) := dc_42 (by decide +kernel)
theorem dX10_sleep_57 : decode cX10_sleep 57 = .ok (.getfield 15, 3) := dc_180 0 15 (by decide +kernel)
theorem dX10_sleep_60 : decode cX10_sleep 60 = .ok (.iload 4, 2) := dc_21 4 (by decide +kernel)
theorem dX10_sleep_62 : decode cX10_sleep 62 = .ok (.iconst 1, 1) := dc_4 (by decide +kernel)
theorem dX10_sleep_63 : decode cX10_sleep 63 = .ok (.isub, 1) := dc_100 (by decide +kernel)
theorem dX10_sleep_64 : decode cX10_sleep 64 = .ok (.iaload, 1) := dc_46 (by decide +kernel)
theorem dX10_sleep_65 : decode cX10_sleep 65 = .ok (.iastore, 1) := dc_79 (by decide +kernel)
theorem dX10_sleep_66 : decode cX10_sleep 66 = .ok (.aload_n 0, 1) := dc_42 (by decide +kernel)
theorem dX10_sleep_67 : decode cX10_sleep 67 = .ok (.getfield 18, 3) := dc_180 0 18 (by decide +kernel)
theorem dX10_sleep_70 : decode cX10_sleep 70 = .ok (.iload 4, 2) := dc_21 4 (by decide +kernel)
theorem dX10_sleep_72 : decode cX10_sleep 72 = .ok (.aload_n 0, 1) := dc_42 (by decide +kernel)
theorem dX10_sleep_73 : decode cX10_sleep 73 = .ok (.getfield 18, 3) := dc_180 0 18 (by decide +kernel)
theorem dX10_sleep_76 : decode cX10_sleep 76 = .ok (.iload 4, 2) := dc_21 4 (by decide +kernel)
theorem dX10_sleep_78 : decode cX10_sleep 78 = .ok (.iconst 1, 1) := dc_4 (by decide +kernel)
theorem dX10_sleep_79 : decode cX10_sleep 79 = .ok (.isub, 1) := dc_100 (by decide +kernel)
theorem dX10_sleep_80 : decode cX10_sleep 80 = .ok (.iaload, 1) := dc_46 (by decide +kernel)
theorem dX10_sleep_81 : decode cX10_sleep 81 = .ok (.iastore, 1) := dc_79 (by decide +kernel)
theorem dX10_sleep_82 : decode cX10_sleep 82 = .ok (.iinc 4 (-1), 3) := dc_132 4 255 (-1) (by decide +kernel)
theorem dX10_sleep_85 : decode cX10_sleep 85 = .ok (.goto (-69), 3) := dc_167 255 187 (-69) (by decide +kernel)
theorem dX10_sleep_9 : decode cX10_sleep 9 = .ok (.return_, 1) := dc_177 (by decide +kernel)
abbrev R_X10_sleep : Room := { frames := 0, cells := 0, slots := 0, locals := 0 }
set_option maxRecDepth 100000 in
set_option maxHeartbeats 4000000 in
theorem s_X10_sleep {l : Launch} {n0 : Nat} {D : va_G} {cA : Nat → ClassId} {M : gM} (a : Int) (r_a : 0 ≤ a ∧ a ≤ 7) (b : Int) (r_b : 0 ≤ b ∧ b ≤ 5) (c : Int) (r_c : 0 ≤ c ∧ c ≤ 300) {sz : Nat} (hsz : 206 ≤ sz) (I : gI sz M) (C : gC sz M)   : Met l yX10_sleep (gWsOf yX10_sleep cX10_sleep 5 (Option.none : Option Jvm.ClassFile.FieldType)) R_X10_sleep (gPc n0 D cA [gA n0 26, gJ a, gJ b, gJ c] M sz) (gQv n0 D cA sz (fun M1 => gI sz M1 ∧ gC sz M1 ∧ gFr 393216 M M1 ∧ (M 26 3 < 40 → M1 26 3 = M 26 3 + 1))) 0 0 (fun q => n0 ≤ q) := by
  refine gMetV [gA n0 26, gJ a, gJ b, gJ c] (by decide) (Nat.le_of_ble_eq_true rfl) ⟨rfl, rfl⟩ ?_
  intro p e s m args below meth cd Q X hq
  have X : gCx p s m args meth cd n0 D cA "ParishUnion$Vagrants" cX10_sleep 5 := X
  show G p l e R_X10_sleep s m args below meth cd n0 D cA 5 Q 0 0 M sz 0 [(0, gA n0 26), (1, gJ a), (2, gJ b), (3, gJ c)] []
  obtain ⟨v1, hv1, rv1⟩ := gRd I (by decide) (gsz hsz (by decide)) rc_26_3.1
  refine g_aload_n (n := 1) X 0 dX10_sleep_0 rfl rfl rfl ?_
  refine gg_10_3 (n := 4) (z := v1) X (by decide) (gsz hsz (by decide)) lay_26 kw_1_159 dX10_sleep_1 rfl hv1 ?_
  refine g_bipush (n := 6) X dX10_sleep_4 (by decide +kernel) rfl ?_
  refine g_icmp_lt (n := 9) (tgt := 10) X dX10_sleep_6 (by decide) (by omega) (by omega) rfl (fun c2 => ?_) (fun c2 => ?_)
  · refine g_aload_n (n := 11) X 0 dX10_sleep_10 rfl rfl rfl ?_
    refine gg_10_3 (n := 14) (z := v1) X (by decide) (gsz hsz (by decide)) lay_26 kw_1_159 dX10_sleep_11 rfl hv1 ?_
    refine g_istore (n := 16) (L' := [(4, gJ v1), (0, gA n0 26), (1, gJ a), (2, gJ b), (3, gJ c)]) X dX10_sleep_14 (by decide) rfl rfl ?_
    have j5 : ∀ (N60 : Nat) (v3 : Int) (M4 : gM) , (0 ≤ v3 ∧ v3 ≤ 39) → gI sz M4 → gC sz M4 → gFr 131072 M M4 → (v3 - 0).toNat < N60 → G p l e R_X10_sleep s m args below meth cd n0 D cA 5 Q 0 0 M4 sz 16 [(0, gA n0 26), (1, gJ a), (2, gJ b), (3, gJ c), (4, gJ v3)] [] := by
      intro N60; induction N60 with
      | zero => intro v3 M4 rv3 IM4 CM4 FM4 hm62; exfalso; omega
      | succ N60 ih61 =>
        intro v3 M4 rv3 IM4 CM4 FM4 hm62
        refine g_iload (n := 18) X 4 dX10_sleep_16 rfl rfl ?_
        refine g_if_le (n := 21) (tgt := 88) X dX10_sleep_18 (by decide) (by omega) rfl (fun c63 => ?_) (fun c63 => ?_)
        · refine g_aload_n (n := 89) X 0 dX10_sleep_88 rfl rfl rfl ?_
          refine gg_10_0 (n := 92) (z := 27) X (by decide) (gsz hsz (by decide)) lay_26 kw_1_156 dX10_sleep_89 rfl (rf_26_0 IM4 (gsz hsz (by decide))) (by decide) ?_
          refine g_iload (n := 94) X 4 dX10_sleep_92 rfl rfl ?_
          refine g_iload_n (n := 95) X 1 dX10_sleep_94 rfl rfl rfl ?_
          refine g_iast (n := 96) X (by decide) (gsz hsz (by decide)) lay_27 (by omega) (by omega) (by decide) dX10_sleep_95 rfl ?_
          refine G.nm (fun M64 e65 => ?_)
          have IM64 : gI sz M64 := gI.set IM4 (ra_27 v3).1 (by omega) e65
          have CM64 : gC sz M64 := gC.set CM4 (ra_27 v3).2.1 e65
          refine g_aload_n (n := 97) X 0 dX10_sleep_96 rfl rfl rfl ?_
          refine gg_10_1 (n := 100) (z := 28) X (by decide) (gsz hsz (by decide)) lay_26 kw_1_157 dX10_sleep_97 rfl (rf_26_1 IM64 (gsz hsz (by decide))) (by decide) ?_
          refine g_iload (n := 102) X 4 dX10_sleep_100 rfl rfl ?_
          refine g_iload_n (n := 103) X 2 dX10_sleep_102 rfl rfl rfl ?_
          refine g_iast (n := 104) X (by decide) (gsz hsz (by decide)) lay_28 (by omega) (by omega) (by decide) dX10_sleep_103 rfl ?_
          refine G.nm (fun M66 e67 => ?_)
          have IM66 : gI sz M66 := gI.set IM64 (ra_28 v3).1 (by omega) e67
          have CM66 : gC sz M66 := gC.set CM64 (ra_28 v3).2.1 e67
          refine g_aload_n (n := 105) X 0 dX10_sleep_104 rfl rfl rfl ?_
          refine gg_10_2 (n := 108) (z := 29) X (by decide) (gsz hsz (by decide)) lay_26 kw_1_158 dX10_sleep_105 rfl (rf_26_2 IM66 (gsz hsz (by decide))) (by decide) ?_
          refine g_iload (n := 110) X 4 dX10_sleep_108 rfl rfl ?_
          refine g_iload_n (n := 111) X 3 dX10_sleep_110 rfl rfl rfl ?_
          refine g_iast (n := 112) X (by decide) (gsz hsz (by decide)) lay_29 (by omega) (by omega) (by decide) dX10_sleep_111 rfl ?_
          refine G.nm (fun M68 e69 => ?_)
          have IM68 : gI sz M68 := gI.set IM66 (ra_29 v3).1 (by omega) e69
          have CM68 : gC sz M68 := gC.set CM66 (ra_29 v3).2.1 e69
          refine g_aload_n (n := 113) X 0 dX10_sleep_112 rfl rfl rfl ?_
          refine g_dup (n := 114) X dX10_sleep_113 rfl rfl ?_
          refine gg_10_3 (n := 117) (z := v1) X (by decide) (gsz hsz (by decide)) lay_26 kw_1_159 dX10_sleep_114 rfl ((congrFun (congrFun e69 _) _).trans ((gset_ne (by omega)).trans ((congrFun (congrFun e67 _) _).trans ((gset_ne (by omega)).trans ((congrFun (congrFun e65 _) _).trans ((gset_ne (by omega)).trans ((gFr.at FM4 rc_26_3.2.2 rfl).trans hv1))))))) ?_
          refine g_iconst (n := 118) X dX10_sleep_117 rfl ?_
          refine g_iadd (n := 119) (z := v1 + 1) X dX10_sleep_118 (by omega) rfl ?_
          refine gp_10_3 (n := 122) X (by decide) (gsz hsz (by decide)) lay_26 kw_1_159 dX10_sleep_119 rfl ?_
          refine G.nm (fun M70 e71 => ?_)
          have IM70 : gI sz M70 := gI.set IM68 rc_26_3.1 (by omega) e71
          have CM70 : gC sz M70 := gC.set CM68 rc_26_3.2.1 e71
          exact hq _ _ _ dX10_sleep_122 ⟨IM70, CM70, (gFr.s (gFr.s (gFr.s (gFr.s (gFr.c gFr.rf FM4 rfl) e65 (ra_27 v3).2.2 rfl) e67 (ra_28 v3).2.2 rfl) e69 (ra_29 v3).2.2 rfl) e71 rc_26_3.2.2 rfl), by have q0 := ((congrFun (congrFun e71 _) _).trans (gset_eq _ _ _ _)); omega⟩
        · refine g_aload_n (n := 22) X 0 dX10_sleep_21 rfl rfl rfl ?_
          refine gg_10_2 (n := 25) (z := 29) X (by decide) (gsz hsz (by decide)) lay_26 kw_1_158 dX10_sleep_22 rfl (rf_26_2 IM4 (gsz hsz (by decide))) (by decide) ?_
          refine g_iload (n := 27) X 4 dX10_sleep_25 rfl rfl ?_
          refine g_iconst (n := 28) X dX10_sleep_27 rfl ?_
          refine g_isub (n := 29) (z := v3 - 1) X dX10_sleep_28 (by omega) rfl ?_
          obtain ⟨v72, hv72, rv72⟩ := gRd IM4 (by decide) (gsz hsz (by decide)) (ra_29 (v3 - 1)).1
          refine g_iald2 (n := 30) (v := v72) X (by decide) (gsz hsz (by decide)) lay_29 (by omega) (by omega) (by decide) dX10_sleep_29 rfl hv72 ?_
          refine g_iload_n (n := 31) X 3 dX10_sleep_30 rfl rfl rfl ?_
          refine g_icmp_le (n := 34) (tgt := 88) X dX10_sleep_31 (by decide) (by omega) (by omega) rfl (fun c73 => ?_) (fun c73 => ?_)
          · refine g_aload_n (n := 89) X 0 dX10_sleep_88 rfl rfl rfl ?_
            refine gg_10_0 (n := 92) (z := 27) X (by decide) (gsz hsz (by decide)) lay_26 kw_1_156 dX10_sleep_89 rfl (rf_26_0 IM4 (gsz hsz (by decide))) (by decide) ?_
            refine g_iload (n := 94) X 4 dX10_sleep_92 rfl rfl ?_
            refine g_iload_n (n := 95) X 1 dX10_sleep_94 rfl rfl rfl ?_
            refine g_iast (n := 96) X (by decide) (gsz hsz (by decide)) lay_27 (by omega) (by omega) (by decide) dX10_sleep_95 rfl ?_
            refine G.nm (fun M74 e75 => ?_)
            have IM74 : gI sz M74 := gI.set IM4 (ra_27 v3).1 (by omega) e75
            have CM74 : gC sz M74 := gC.set CM4 (ra_27 v3).2.1 e75
            refine g_aload_n (n := 97) X 0 dX10_sleep_96 rfl rfl rfl ?_
            refine gg_10_1 (n := 100) (z := 28) X (by decide) (gsz hsz (by decide)) lay_26 kw_1_157 dX10_sleep_97 rfl (rf_26_1 IM74 (gsz hsz (by decide))) (by decide) ?_
            refine g_iload (n := 102) X 4 dX10_sleep_100 rfl rfl ?_
            refine g_iload_n (n := 103) X 2 dX10_sleep_102 rfl rfl rfl ?_
            refine g_iast (n := 104) X (by decide) (gsz hsz (by decide)) lay_28 (by omega) (by omega) (by decide) dX10_sleep_103 rfl ?_
            refine G.nm (fun M76 e77 => ?_)
            have IM76 : gI sz M76 := gI.set IM74 (ra_28 v3).1 (by omega) e77
            have CM76 : gC sz M76 := gC.set CM74 (ra_28 v3).2.1 e77
            refine g_aload_n (n := 105) X 0 dX10_sleep_104 rfl rfl rfl ?_
            refine gg_10_2 (n := 108) (z := 29) X (by decide) (gsz hsz (by decide)) lay_26 kw_1_158 dX10_sleep_105 rfl (rf_26_2 IM76 (gsz hsz (by decide))) (by decide) ?_
            refine g_iload (n := 110) X 4 dX10_sleep_108 rfl rfl ?_
            refine g_iload_n (n := 111) X 3 dX10_sleep_110 rfl rfl rfl ?_
            refine g_iast (n := 112) X (by decide) (gsz hsz (by decide)) lay_29 (by omega) (by omega) (by decide) dX10_sleep_111 rfl ?_
            refine G.nm (fun M78 e79 => ?_)
            have IM78 : gI sz M78 := gI.set IM76 (ra_29 v3).1 (by omega) e79
            have CM78 : gC sz M78 := gC.set CM76 (ra_29 v3).2.1 e79
            refine g_aload_n (n := 113) X 0 dX10_sleep_112 rfl rfl rfl ?_
            refine g_dup (n := 114) X dX10_sleep_113 rfl rfl ?_
            refine gg_10_3 (n := 117) (z := v1) X (by decide) (gsz hsz (by decide)) lay_26 kw_1_159 dX10_sleep_114 rfl ((congrFun (congrFun e79 _) _).trans ((gset_ne (by omega)).trans ((congrFun (congrFun e77 _) _).trans ((gset_ne (by omega)).trans ((congrFun (congrFun e75 _) _).trans ((gset_ne (by omega)).trans ((gFr.at FM4 rc_26_3.2.2 rfl).trans hv1))))))) ?_
            refine g_iconst (n := 118) X dX10_sleep_117 rfl ?_
            refine g_iadd (n := 119) (z := v1 + 1) X dX10_sleep_118 (by omega) rfl ?_
            refine gp_10_3 (n := 122) X (by decide) (gsz hsz (by decide)) lay_26 kw_1_159 dX10_sleep_119 rfl ?_
            refine G.nm (fun M80 e81 => ?_)
            have IM80 : gI sz M80 := gI.set IM78 rc_26_3.1 (by omega) e81
            have CM80 : gC sz M80 := gC.set CM78 rc_26_3.2.1 e81
            exact hq _ _ _ dX10_sleep_122 ⟨IM80, CM80, (gFr.s (gFr.s (gFr.s (gFr.s (gFr.c gFr.rf FM4 rfl) e75 (ra_27 v3).2.2 rfl) e77 (ra_28 v3).2.2 rfl) e79 (ra_29 v3).2.2 rfl) e81 rc_26_3.2.2 rfl), by have q0 := ((congrFun (congrFun e81 _) _).trans (gset_eq _ _ _ _)); omega⟩
          · refine g_aload_n (n := 35) X 0 dX10_sleep_34 rfl rfl rfl ?_
            refine gg_10_0 (n := 38) (z := 27) X (by decide) (gsz hsz (by decide)) lay_26 kw_1_156 dX10_sleep_35 rfl (rf_26_0 IM4 (gsz hsz (by decide))) (by decide) ?_
            refine g_iload (n := 40) X 4 dX10_sleep_38 rfl rfl ?_
            refine g_aload_n (n := 41) X 0 dX10_sleep_40 rfl rfl rfl ?_
            refine gg_10_0 (n := 44) (z := 27) X (by decide) (gsz hsz (by decide)) lay_26 kw_1_156 dX10_sleep_41 rfl (rf_26_0 IM4 (gsz hsz (by decide))) (by decide) ?_
            refine g_iload (n := 46) X 4 dX10_sleep_44 rfl rfl ?_
            refine g_iconst (n := 47) X dX10_sleep_46 rfl ?_
            refine g_isub (n := 48) (z := v3 - 1) X dX10_sleep_47 (by omega) rfl ?_
            obtain ⟨v82, hv82, rv82⟩ := gRd IM4 (by decide) (gsz hsz (by decide)) (ra_27 (v3 - 1)).1
            refine g_iald2 (n := 49) (v := v82) X (by decide) (gsz hsz (by decide)) lay_27 (by omega) (by omega) (by decide) dX10_sleep_48 rfl hv82 ?_
            refine g_iast (n := 50) X (by decide) (gsz hsz (by decide)) lay_27 (by omega) (by omega) (by decide) dX10_sleep_49 rfl ?_
            refine G.nm (fun M83 e84 => ?_)
            have IM83 : gI sz M83 := gI.set IM4 (ra_27 v3).1 (by omega) e84
            have CM83 : gC sz M83 := gC.set CM4 (ra_27 v3).2.1 e84
            refine g_aload_n (n := 51) X 0 dX10_sleep_50 rfl rfl rfl ?_
            refine gg_10_1 (n := 54) (z := 28) X (by decide) (gsz hsz (by decide)) lay_26 kw_1_157 dX10_sleep_51 rfl (rf_26_1 IM83 (gsz hsz (by decide))) (by decide) ?_
            refine g_iload (n := 56) X 4 dX10_sleep_54 rfl rfl ?_
            refine g_aload_n (n := 57) X 0 dX10_sleep_56 rfl rfl rfl ?_
            refine gg_10_1 (n := 60) (z := 28) X (by decide) (gsz hsz (by decide)) lay_26 kw_1_157 dX10_sleep_57 rfl (rf_26_1 IM83 (gsz hsz (by decide))) (by decide) ?_
            refine g_iload (n := 62) X 4 dX10_sleep_60 rfl rfl ?_
            refine g_iconst (n := 63) X dX10_sleep_62 rfl ?_
            refine g_isub (n := 64) (z := v3 - 1) X dX10_sleep_63 (by omega) rfl ?_
            obtain ⟨v85, hv85, rv85⟩ := gRd IM83 (by decide) (gsz hsz (by decide)) (ra_28 (v3 - 1)).1
            refine g_iald2 (n := 65) (v := v85) X (by decide) (gsz hsz (by decide)) lay_28 (by omega) (by omega) (by decide) dX10_sleep_64 rfl hv85 ?_
            refine g_iast (n := 66) X (by decide) (gsz hsz (by decide)) lay_28 (by omega) (by omega) (by decide) dX10_sleep_65 rfl ?_
            refine G.nm (fun M86 e87 => ?_)
            have IM86 : gI sz M86 := gI.set IM83 (ra_28 v3).1 (by omega) e87
            have CM86 : gC sz M86 := gC.set CM83 (ra_28 v3).2.1 e87
            refine g_aload_n (n := 67) X 0 dX10_sleep_66 rfl rfl rfl ?_
            refine gg_10_2 (n := 70) (z := 29) X (by decide) (gsz hsz (by decide)) lay_26 kw_1_158 dX10_sleep_67 rfl (rf_26_2 IM86 (gsz hsz (by decide))) (by decide) ?_
            refine g_iload (n := 72) X 4 dX10_sleep_70 rfl rfl ?_
            refine g_aload_n (n := 73) X 0 dX10_sleep_72 rfl rfl rfl ?_
            refine gg_10_2 (n := 76) (z := 29) X (by decide) (gsz hsz (by decide)) lay_26 kw_1_158 dX10_sleep_73 rfl (rf_26_2 IM86 (gsz hsz (by decide))) (by decide) ?_
            refine g_iload (n := 78) X 4 dX10_sleep_76 rfl rfl ?_
            refine g_iconst (n := 79) X dX10_sleep_78 rfl ?_
            refine g_isub (n := 80) (z := v3 - 1) X dX10_sleep_79 (by omega) rfl ?_
            refine g_iald2 (n := 81) (v := v72) X (by decide) (gsz hsz (by decide)) lay_29 (by omega) (by omega) (by decide) dX10_sleep_80 rfl ((congrFun (congrFun e87 _) _).trans ((gset_ne (by omega)).trans ((congrFun (congrFun e84 _) _).trans ((gset_ne (by omega)).trans hv72)))) ?_
            refine g_iast (n := 82) X (by decide) (gsz hsz (by decide)) lay_29 (by omega) (by omega) (by decide) dX10_sleep_81 rfl ?_
            refine G.nm (fun M88 e89 => ?_)
            have IM88 : gI sz M88 := gI.set IM86 (ra_29 v3).1 (by omega) e89
            have CM88 : gC sz M88 := gC.set CM86 (ra_29 v3).2.1 e89
            refine g_iinc (n := 85) (w := v3 - 1) (L' := [(4, gJ (v3 - 1)), (0, gA n0 26), (1, gJ a), (2, gJ b), (3, gJ c)]) X 4 dX10_sleep_82 rfl rfl (by decide) rfl rfl ?_
            refine g_goto (tgt := 16) X dX10_sleep_85 (by decide) ?_
            refine G.sub (L' := [(0, gA n0 26), (1, gJ a), (2, gJ b), (3, gJ c), (4, gJ (v3 - 1))]) [1, 2, 3, 4, 0] rfl ?_
            exact ih61 (v3 - 1) M88 (by omega) IM88 CM88 (gFr.s (gFr.s (gFr.s (gFr.c gFr.rf FM4 rfl) e84 (ra_27 v3).2.2 rfl) e87 (ra_28 v3).2.2 rfl) e89 (ra_29 v3).2.2 rfl) (by omega)
    refine G.sub (L' := [(0, gA n0 26), (1, gJ a), (2, gJ b), (3, gJ c), (4, gJ v1)]) [1, 2, 3, 4, 0] rfl ?_
    exact j5 _ v1 M (by omega) I C gFr.rf (Nat.lt_succ_self _)
  · exact hq _ _ _ dX10_sleep_9 ⟨I, C, gFr.rf, by have q0 := hv1; omega⟩
theorem dX10_mayBeOne_0 : decode cX10_mayBeOne 0 = .ok (.iconst (-1), 1) := dc_2 (by decide +kernel)
theorem dX10_mayBeOne_1 : decode cX10_mayBeOne 1 = .ok (.istore_n 3, 1) := dc_62 (by decide +kernel)
theorem dX10_mayBeOne_2 : decode cX10_mayBeOne 2 = .ok (.iconst 0, 1) := dc_3 (by decide +kernel)
theorem dX10_mayBeOne_3 : decode cX10_mayBeOne 3 = .ok (.istore 4, 2) := dc_54 4 (by decide +kernel)
theorem dX10_mayBeOne_5 : decode cX10_mayBeOne 5 = .ok (.iload 4, 2) := dc_21 4 (by decide +kernel)
theorem dX10_mayBeOne_7 : decode cX10_mayBeOne 7 = .ok (.aload_n 0, 1) := dc_42 (by decide +kernel)
theorem dX10_mayBeOne_8 : decode cX10_mayBeOne 8 = .ok (.getfield 27, 3) := dc_180 0 27 (by decide +kernel)
theorem dX10_mayBeOne_11 : decode cX10_mayBeOne 11 = .ok (.if_icmp .ge 81, 3) := dc_162 0 81 81 (by decide +kernel)
theorem dX10_mayBeOne_92 : decode cX10_mayBeOne 92 = .ok (.iconst 1, 1) := dc_4 (by decide +kernel)
theorem dX10_mayBeOne_93 : decode cX10_mayBeOne 93 = .ok (.ireturn, 1) := dc_172 (by decide +kernel)
theorem dX10_mayBeOne_14 : decode cX10_mayBeOne 14 = .ok (.iload_n 1, 1) := dc_27 (by decide +kernel)
theorem dX10_mayBeOne_15 : decode cX10_mayBeOne 15 = .ok (.aload_n 0, 1) := dc_42 (by decide +kernel)
theorem dX10_mayBeOne_16 : decode cX10_mayBeOne 16 = .ok (.getfield 9, 3) := dc_180 0 9 (by decide +kernel)
theorem dX10_mayBeOne_19 : decode cX10_mayBeOne 19 = .ok (.iload 4, 2) := dc_21 4 (by decide +kernel)
theorem dX10_mayBeOne_21 : decode cX10_mayBeOne 21 = .ok (.iaload, 1) := dc_46 (by decide +kernel)
theorem dX10_mayBeOne_22 : decode cX10_mayBeOne 22 = .ok (.ishr, 1) := dc_122 (by decide +kernel)
theorem dX10_mayBeOne_23 : decode cX10_mayBeOne 23 = .ok (.iconst 1, 1) := dc_4 (by decide +kernel)
theorem dX10_mayBeOne_24 : decode cX10_mayBeOne 24 = .ok (.iand, 1) := dc_126 (by decide +kernel)
theorem dX10_mayBeOne_25 : decode cX10_mayBeOne 25 = .ok (.ifCond .ne 6, 3) := dc_154 0 6 6 (by decide +kernel)
theorem dX10_mayBeOne_31 : decode cX10_mayBeOne 31 = .ok (.iload_n 3, 1) := dc_29 (by decide +kernel)
theorem dX10_mayBeOne_32 : decode cX10_mayBeOne 32 = .ok (.iconst (-1), 1) := dc_2 (by decide +kernel)
theorem dX10_mayBeOne_33 : decode cX10_mayBeOne 33 = .ok (.if_icmp .eq 50, 3) := dc_159 0 50 50 (by decide +kernel)
theorem dX10_mayBeOne_83 : decode cX10_mayBeOne 83 = .ok (.iload 4, 2) := dc_21 4 (by decide +kernel)
theorem dX10_mayBeOne_85 : decode cX10_mayBeOne 85 = .ok (.istore_n 3, 1) := dc_62 (by decide +kernel)
theorem dX10_mayBeOne_86 : decode cX10_mayBeOne 86 = .ok (.iinc 4 1, 3) := dc_132 4 1 1 (by decide +kernel)
theorem dX10_mayBeOne_89 : decode cX10_mayBeOne 89 = .ok (.goto (-84), 3) := dc_167 255 172 (-84) (by decide +kernel)
theorem dX10_mayBeOne_28 : decode cX10_mayBeOne 28 = .ok (.goto 58, 3) := dc_167 0 58 58 (by decide +kernel)
theorem dX10_mayBeOne_36 : decode cX10_mayBeOne 36 = .ok (.aload_n 2, 1) := dc_44 (by decide +kernel)
theorem dX10_mayBeOne_37 : decode cX10_mayBeOne 37 = .ok (.aload_n 0, 1) := dc_42 (by decide +kernel)
theorem dX10_mayBeOne_38 : decode cX10_mayBeOne 38 = .ok (.getfield 15, 3) := dc_180 0 15 (by decide +kernel)
theorem dX10_mayBeOne_41 : decode cX10_mayBeOne 41 = .ok (.iload_n 3, 1) := dc_29 (by decide +kernel)
theorem dX10_mayBeOne_42 : decode cX10_mayBeOne 42 = .ok (.iaload, 1) := dc_46 (by decide +kernel)
theorem dX10_mayBeOne_43 : decode cX10_mayBeOne 43 = .ok (.aload_n 0, 1) := dc_42 (by decide +kernel)
theorem dX10_mayBeOne_44 : decode cX10_mayBeOne 44 = .ok (.getfield 15, 3) := dc_180 0 15 (by decide +kernel)
theorem dX10_mayBeOne_47 : decode cX10_mayBeOne 47 = .ok (.iload 4, 2) := dc_21 4 (by decide +kernel)
theorem dX10_mayBeOne_49 : decode cX10_mayBeOne 49 = .ok (.iaload, 1) := dc_46 (by decide +kernel)
theorem dX10_mayBeOne_50 : decode cX10_mayBeOne 50 = .ok (.invokevirtual 31, 3) := dc_182 0 31 (by decide +kernel)
theorem kw_5_98 : (Jvm.Cond.methodLink "ParishUnion$Vagrants" (31 : Nat) ({ cls := "ParishUnion$Land", name := "distance", desc := "(II)I" } : Jvm.MethodName)) ∈ gT := gT_of (tb_5 _ (List.mem_of_getElem? (i := 98) rfl)) rfl
theorem dX10_mayBeOne_53 : decode cX10_mayBeOne 53 = .ok (.istore 5, 2) := dc_54 5 (by decide +kernel)
theorem dX10_mayBeOne_55 : decode cX10_mayBeOne 55 = .ok (.iload 5, 2) := dc_21 5 (by decide +kernel)
theorem dX10_mayBeOne_57 : decode cX10_mayBeOne 57 = .ok (.bipush 99, 2) := dc_16 99 99 (by decide +kernel)
theorem dX10_mayBeOne_59 : decode cX10_mayBeOne 59 = .ok (.if_icmp .eq 22, 3) := dc_159 0 22 22 (by decide +kernel)
theorem dX10_mayBeOne_81 : decode cX10_mayBeOne 81 = .ok (.iconst 0, 1) := dc_3 (by decide +kernel)
theorem dX10_mayBeOne_82 : decode cX10_mayBeOne 82 = .ok (.ireturn, 1) := dc_172 (by decide +kernel)
theorem dX10_mayBeOne_62 : decode cX10_mayBeOne 62 = .ok (.aload_n 0, 1) := dc_42 (by decide +kernel)
theorem dX10_mayBeOne_63 : decode cX10_mayBeOne 63 = .ok (.getfield 18, 3) := dc_180 0 18 (by decide +kernel)
theorem dX10_mayBeOne_66 : decode cX10_mayBeOne 66 = .ok (.iload 4, 2) := dc_21 4 (by decide +kernel)
theorem dX10_mayBeOne_68 : decode cX10_mayBeOne 68 = .ok (.iaload, 1) := dc_46 (by decide +kernel)
theorem dX10_mayBeOne_69 : decode cX10_mayBeOne 69 = .ok (.aload_n 0, 1) := dc_42 (by decide +kernel)
theorem dX10_mayBeOne_70 : decode cX10_mayBeOne 70 = .ok (.getfield 18, 3) := dc_180 0 18 (by decide +kernel)
theorem dX10_mayBeOne_73 : decode cX10_mayBeOne 73 = .ok (.iload_n 3, 1) := dc_29 (by decide +kernel)
theorem dX10_mayBeOne_74 : decode cX10_mayBeOne 74 = .ok (.iaload, 1) := dc_46 (by decide +kernel)
theorem dX10_mayBeOne_75 : decode cX10_mayBeOne 75 = .ok (.isub, 1) := dc_100 (by decide +kernel)
theorem dX10_mayBeOne_76 : decode cX10_mayBeOne 76 = .ok (.iload 5, 2) := dc_21 5 (by decide +kernel)
theorem dX10_mayBeOne_78 : decode cX10_mayBeOne 78 = .ok (.if_icmp .ge 5, 3) := dc_162 0 5 5 (by decide +kernel)
abbrev R_X10_mayBeOne : Room := { frames := 1, cells := 0, slots := 0, locals := 22 }
set_option maxRecDepth 100000 in
set_option maxHeartbeats 4000000 in
theorem s_X10_mayBeOne {l : Launch} {n0 : Nat} {D : va_G} {cA : Nat → ClassId} {M : gM} (a : Int) (r_a : -2147483648 ≤ a ∧ a ≤ 2147483647) {sz : Nat} (hsz : 206 ≤ sz) (I : gI sz M) (C : gC sz M)   : Met l yX10_mayBeOne (gWsOf yX10_mayBeOne cX10_mayBeOne 6 (Option.some Jvm.ClassFile.FieldType.boolean)) R_X10_mayBeOne (gPc n0 D cA [gA n0 26, gJ a, gA n0 2] M sz) (gQi n0 D cA sz (fun z M1 => M = M1 ∧ (0 ≤ z ∧ z ≤ 1))) 0 0 (fun q => n0 ≤ q) := by
  refine gMetZ [gA n0 26, gJ a, gA n0 2] (by decide) (Nat.le_of_ble_eq_true rfl) ⟨rfl, rfl⟩ ?_
  intro p e s m args below meth cd Q X hq
  have X : gCx p s m args meth cd n0 D cA "ParishUnion$Vagrants" cX10_mayBeOne 6 := X
  show G p l e R_X10_mayBeOne s m args below meth cd n0 D cA 6 Q 0 0 M sz 0 [(0, gA n0 26), (1, gJ a), (2, gA n0 2)] []
  refine g_iconst (n := 1) X dX10_mayBeOne_0 rfl ?_
  refine g_istore_n (n := 2) (L' := [(3, gJ (-1)), (0, gA n0 26), (1, gJ a), (2, gA n0 2)]) X dX10_mayBeOne_1 rfl (by decide) rfl rfl ?_
  refine g_iconst (n := 3) X dX10_mayBeOne_2 rfl ?_
  refine g_istore (n := 5) (L' := [(4, gJ 0), (3, gJ (-1)), (0, gA n0 26), (1, gJ a), (2, gA n0 2)]) X dX10_mayBeOne_3 (by decide) rfl rfl ?_
  have j4 : ∀ (N108 : Nat) (v1 v2 : Int) , (-1 ≤ v1 ∧ v1 ≤ 39) → (0 ≤ v2 ∧ v2 ≤ 40) → (40 - v2).toNat < N108 → G p l e R_X10_mayBeOne s m args below meth cd n0 D cA 6 Q 0 0 M sz 5 [(0, gA n0 26), (1, gJ a), (2, gA n0 2), (3, gJ v1), (4, gJ v2)] [] := by
    intro N108; induction N108 with
    | zero => intro v1 v2 rv1 rv2 hm110; exfalso; omega
    | succ N108 ih109 =>
      intro v1 v2 rv1 rv2 hm110
      refine g_iload (n := 7) X 4 dX10_mayBeOne_5 rfl rfl ?_
      refine g_aload_n (n := 8) X 0 dX10_mayBeOne_7 rfl rfl rfl ?_
      obtain ⟨v111, hv111, rv111⟩ := gRd I (by decide) (gsz hsz (by decide)) rc_26_3.1
      refine gg_10_3 (n := 11) (z := v111) X (by decide) (gsz hsz (by decide)) lay_26 kw_1_159 dX10_mayBeOne_8 rfl hv111 ?_
      refine g_icmp_ge (n := 14) (tgt := 92) X dX10_mayBeOne_11 (by decide) (by omega) (by omega) rfl (fun c112 => ?_) (fun c112 => ?_)
      · refine g_iconst (n := 93) X dX10_mayBeOne_92 rfl ?_
        exact hq _ _ _ _ dX10_mayBeOne_93 (by omega) ⟨rfl, by omega⟩
      · refine g_iload_n (n := 15) X 1 dX10_mayBeOne_14 rfl rfl rfl ?_
        refine g_aload_n (n := 16) X 0 dX10_mayBeOne_15 rfl rfl rfl ?_
        refine gg_10_0 (n := 19) (z := 27) X (by decide) (gsz hsz (by decide)) lay_26 kw_1_156 dX10_mayBeOne_16 rfl (rf_26_0 I (gsz hsz (by decide))) (by decide) ?_
        refine g_iload (n := 21) X 4 dX10_mayBeOne_19 rfl rfl ?_
        obtain ⟨v113, hv113, rv113⟩ := gRd I (by decide) (gsz hsz (by decide)) (ra_27 v2).1
        refine g_iald2 (n := 22) (v := v113) X (by decide) (gsz hsz (by decide)) lay_27 (by omega) (by omega) (by decide) dX10_mayBeOne_21 rfl hv113 ?_
        refine g_ishrA (n := 23) X dX10_mayBeOne_22 rfl (fun v114 rv114 xv114 => ?_)
        clear xv114
        refine g_iconst (n := 24) X dX10_mayBeOne_23 rfl ?_
        refine g_iandC (n := 25) X dX10_mayBeOne_24 (by decide) rfl (fun v115 rv115 xv115 => ?_)
        clear xv115
        refine g_if_ne (n := 28) (tgt := 31) X dX10_mayBeOne_25 (by decide) (by omega) rfl (fun c116 => ?_) (fun c116 => ?_)
        · refine g_iload_n (n := 32) X 3 dX10_mayBeOne_31 rfl rfl rfl ?_
          refine g_iconst (n := 33) X dX10_mayBeOne_32 rfl ?_
          refine g_icmp_eq (n := 36) (tgt := 83) X dX10_mayBeOne_33 (by decide) (by omega) (by omega) rfl (fun c117 => ?_) (fun c117 => ?_)
          · refine g_iload (n := 85) X 4 dX10_mayBeOne_83 rfl rfl ?_
            refine g_istore_n (n := 86) (L' := [(3, gJ v2), (0, gA n0 26), (1, gJ a), (2, gA n0 2), (4, gJ v2)]) X dX10_mayBeOne_85 rfl (by decide) rfl rfl ?_
            refine g_iinc (n := 89) (w := v2 + 1) (L' := [(4, gJ (v2 + 1)), (3, gJ v2), (0, gA n0 26), (1, gJ a), (2, gA n0 2)]) X 4 dX10_mayBeOne_86 rfl rfl (by decide) rfl rfl ?_
            refine g_goto (tgt := 5) X dX10_mayBeOne_89 (by decide) ?_
            refine G.sub (L' := [(0, gA n0 26), (1, gJ a), (2, gA n0 2), (3, gJ v2), (4, gJ (v2 + 1))]) [2, 3, 4, 1, 0] rfl ?_
            exact ih109 v2 (v2 + 1) (by omega) (by omega) (by omega)
          · refine g_aload_n (n := 37) X 2 dX10_mayBeOne_36 rfl rfl rfl ?_
            refine g_aload_n (n := 38) X 0 dX10_mayBeOne_37 rfl rfl rfl ?_
            refine gg_10_1 (n := 41) (z := 28) X (by decide) (gsz hsz (by decide)) lay_26 kw_1_157 dX10_mayBeOne_38 rfl (rf_26_1 I (gsz hsz (by decide))) (by decide) ?_
            refine g_iload_n (n := 42) X 3 dX10_mayBeOne_41 rfl rfl rfl ?_
            obtain ⟨v118, hv118, rv118⟩ := gRd I (by decide) (gsz hsz (by decide)) (ra_28 v1).1
            refine g_iald2 (n := 43) (v := v118) X (by decide) (gsz hsz (by decide)) lay_28 (by omega) (by omega) (by decide) dX10_mayBeOne_42 rfl hv118 ?_
            refine g_aload_n (n := 44) X 0 dX10_mayBeOne_43 rfl rfl rfl ?_
            refine gg_10_1 (n := 47) (z := 28) X (by decide) (gsz hsz (by decide)) lay_26 kw_1_157 dX10_mayBeOne_44 rfl (rf_26_1 I (gsz hsz (by decide))) (by decide) ?_
            refine g_iload (n := 49) X 4 dX10_mayBeOne_47 rfl rfl ?_
            obtain ⟨v119, hv119, rv119⟩ := gRd I (by decide) (gsz hsz (by decide)) (ra_28 v2).1
            refine g_iald2 (n := 50) (v := v119) X (by decide) (gsz hsz (by decide)) lay_28 (by omega) (by omega) (by decide) dX10_mayBeOne_49 rfl hv119 ?_
            refine g_callVi (n := 53) (As := [gJ v118, gJ v119]) (rest := []) (cs1 := 0) (ss1 := 0) X (s_X3_distance v118 (by omega) v119 (by omega) hsz I C ) okX3_distance kw_5_98 ⟨kw_3_41, kw_3_42⟩ ⟨rfl, rfl⟩ ⟨Nat.le_of_ble_eq_true rfl, Nat.le_of_ble_eq_true rfl⟩ rfl (by decide) (gsz hsz (by decide)) lay_2 rfl rfl (Nat.le_of_ble_eq_true rfl) ⟨Nat.le_of_ble_eq_true rfl, Nat.le_of_ble_eq_true rfl⟩ rfl rfl dX10_mayBeOne_50 rfl (fun v120 M121 P122 => ?_)
            obtain ⟨rfl, rv120, xv120⟩ := P122
            refine g_istore (n := 55) (L' := [(5, gJ v120), (0, gA n0 26), (1, gJ a), (2, gA n0 2), (3, gJ v1), (4, gJ v2)]) X dX10_mayBeOne_53 (by decide) rfl rfl ?_
            refine g_iload (n := 57) X 0 dX10_mayBeOne_55 rfl rfl ?_
            refine g_bipush (n := 59) X dX10_mayBeOne_57 (by decide +kernel) rfl ?_
            refine g_icmp_eq (n := 62) (tgt := 81) X dX10_mayBeOne_59 (by decide) (by omega) (by omega) rfl (fun c123 => ?_) (fun c123 => ?_)
            · refine g_iconst (n := 82) X dX10_mayBeOne_81 rfl ?_
              exact hq _ _ _ _ dX10_mayBeOne_82 (by omega) ⟨rfl, by omega⟩
            · refine g_aload_n (n := 63) X 1 dX10_mayBeOne_62 rfl rfl rfl ?_
              refine gg_10_2 (n := 66) (z := 29) X (by decide) (gsz hsz (by decide)) lay_26 kw_1_158 dX10_mayBeOne_63 rfl (rf_26_2 I (gsz hsz (by decide))) (by decide) ?_
              refine g_iload (n := 68) X 5 dX10_mayBeOne_66 rfl rfl ?_
              obtain ⟨v124, hv124, rv124⟩ := gRd I (by decide) (gsz hsz (by decide)) (ra_29 v2).1
              refine g_iald2 (n := 69) (v := v124) X (by decide) (gsz hsz (by decide)) lay_29 (by omega) (by omega) (by decide) dX10_mayBeOne_68 rfl hv124 ?_
              refine g_aload_n (n := 70) X 1 dX10_mayBeOne_69 rfl rfl rfl ?_
              refine gg_10_2 (n := 73) (z := 29) X (by decide) (gsz hsz (by decide)) lay_26 kw_1_158 dX10_mayBeOne_70 rfl (rf_26_2 I (gsz hsz (by decide))) (by decide) ?_
              refine g_iload_n (n := 74) X 4 dX10_mayBeOne_73 rfl rfl rfl ?_
              obtain ⟨v125, hv125, rv125⟩ := gRd I (by decide) (gsz hsz (by decide)) (ra_29 v1).1
              refine g_iald2 (n := 75) (v := v125) X (by decide) (gsz hsz (by decide)) lay_29 (by omega) (by omega) (by decide) dX10_mayBeOne_74 rfl hv125 ?_
              refine g_isub (n := 76) (z := v124 - v125) X dX10_mayBeOne_75 rfl rfl ?_
              refine g_iload (n := 78) X 0 dX10_mayBeOne_76 rfl rfl ?_
              refine g_icmp_ge (n := 81) (tgt := 83) X dX10_mayBeOne_78 (by decide) (by omega) (by omega) rfl (fun c126 => ?_) (fun c126 => ?_)
              · refine g_iload (n := 85) X 5 dX10_mayBeOne_83 rfl rfl ?_
                refine g_istore_n (n := 86) (L' := [(3, gJ v2), (5, gJ v120), (0, gA n0 26), (1, gJ a), (2, gA n0 2), (4, gJ v2)]) X dX10_mayBeOne_85 rfl (by decide) rfl rfl ?_
                refine g_iinc (n := 89) (w := v2 + 1) (L' := [(4, gJ (v2 + 1)), (3, gJ v2), (5, gJ v120), (0, gA n0 26), (1, gJ a), (2, gA n0 2)]) X 5 dX10_mayBeOne_86 rfl rfl (by decide) rfl rfl ?_
                refine g_goto (tgt := 5) X dX10_mayBeOne_89 (by decide) ?_
                refine G.sub (L' := [(0, gA n0 26), (1, gJ a), (2, gA n0 2), (3, gJ v2), (4, gJ (v2 + 1))]) [3, 4, 5, 1, 0] rfl ?_
                exact ih109 v2 (v2 + 1) (by omega) (by omega) (by omega)
              · refine g_iconst (n := 82) X dX10_mayBeOne_81 rfl ?_
                exact hq _ _ _ _ dX10_mayBeOne_82 (by omega) ⟨rfl, by omega⟩
        · refine g_goto (tgt := 86) X dX10_mayBeOne_28 (by decide) ?_
          refine g_iinc (n := 89) (w := v2 + 1) (L' := [(4, gJ (v2 + 1)), (0, gA n0 26), (1, gJ a), (2, gA n0 2), (3, gJ v1)]) X 4 dX10_mayBeOne_86 rfl rfl (by decide) rfl rfl ?_
          refine g_goto (tgt := 5) X dX10_mayBeOne_89 (by decide) ?_
          refine G.sub (L' := [(0, gA n0 26), (1, gJ a), (2, gA n0 2), (3, gJ v1), (4, gJ (v2 + 1))]) [1, 2, 3, 4, 0] rfl ?_
          exact ih109 v1 (v2 + 1) (by omega) (by omega) (by omega)
  refine G.sub (L' := [(0, gA n0 26), (1, gJ a), (2, gA n0 2), (3, gJ (-1)), (4, gJ 0)]) [2, 3, 4, 1, 0] rfl ?_
  exact j4 _ (-1) 0 (by omega) (by omega) (Nat.lt_succ_self _)
def gTen (i : Int) : Int := if i ≤ 0 then 1 else if i = 1 then 10 else if i = 2 then 100 else if i = 3 then 1000 else if i = 4 then 10000 else if i = 5 then 100000 else if i = 6 then 1000000 else if i = 7 then 10000000 else if i = 8 then 100000000 else if i = 9 then 1000000000 else 10000000000
theorem gTen_s {i : Int} (h0 : 0 ≤ i) (h1 : i < 10) : gTen (i + 1) = gTen i * 10 := by
  rcases (by omega : i = 0 ∨ i = 1 ∨ i = 2 ∨ i = 3 ∨ i = 4 ∨ i = 5 ∨ i = 6 ∨ i = 7 ∨ i = 8 ∨ i = 9) with rfl | rfl | rfl | rfl | rfl | rfl | rfl | rfl | rfl | rfl <;> decide
theorem gTen_r {i : Int} (h0 : 0 ≤ i) (h1 : i < 10) : 1 ≤ gTen i ∧ gTen i ≤ 1000000000 := by
  rcases (by omega : i = 0 ∨ i = 1 ∨ i = 2 ∨ i = 3 ∨ i = 4 ∨ i = 5 ∨ i = 6 ∨ i = 7 ∨ i = 8 ∨ i = 9) with rfl | rfl | rfl | rfl | rfl | rfl | rfl | rfl | rfl | rfl <;> decide
theorem dX11_parish_0 : decode cX11_parish 0 = .ok (.iload_n 1, 1) := dc_27 (by decide +kernel)
theorem dX11_parish_1 : decode cX11_parish 1 = .ok (.invokestatic 58, 3) := dc_184 0 58 (by decide +kernel)
theorem kw_3_26 : (Jvm.Cond.methodLink "ParishUnion" (58 : Nat) ({ cls := "ParishUnion", name := "isParish", desc := "(I)Z" } : Jvm.MethodName)) ∈ gT := gT_of (tb_3 _ (List.mem_of_getElem? (i := 26) rfl)) rfl
theorem kw_3_28 : (Jvm.Cond.code ({ cls := "ParishUnion", name := "isParish", desc := "(I)Z" } : Jvm.MethodName) prog_1_method_49_code (1 : Nat) (Option.some Jvm.ClassFile.FieldType.boolean)) ∈ gT := gT_of (tb_3 _ (List.mem_of_getElem? (i := 28) rfl)) rfl
theorem okX11_isParish : gQok yX11_isParish cX11_isParish 1 (Option.some Jvm.ClassFile.FieldType.boolean) 1 := ⟨kw_3_28, kw_1_1, by decide +kernel, by decide +kernel, by decide +kernel⟩
theorem kw_3_27 : (Jvm.Cond.static ({ cls := "ParishUnion", name := "isParish", desc := "(I)Z" } : Jvm.MethodName)) ∈ gT := gT_of (tb_3 _ (List.mem_of_getElem? (i := 27) rfl)) rfl
theorem dX11_parish_4 : decode cX11_parish 4 = .ok (.ifCond .ne 5, 3) := dc_154 0 5 5 (by decide +kernel)
theorem dX11_parish_9 : decode cX11_parish 9 = .ok (.iload_n 2, 1) := dc_28 (by decide +kernel)
theorem dX11_parish_10 : decode cX11_parish 10 = .ok (.iconst 0, 1) := dc_3 (by decide +kernel)
theorem dX11_parish_11 : decode cX11_parish 11 = .ok (.sipush 9999, 3) := dc_17 39 15 9999 (by decide +kernel)
theorem dX11_parish_14 : decode cX11_parish 14 = .ok (.invokestatic 62, 3) := dc_184 0 62 (by decide +kernel)
theorem dX11_parish_17 : decode cX11_parish 17 = .ok (.ifCond .ne 6, 3) := dc_154 0 6 6 (by decide +kernel)
theorem dX11_parish_23 : decode cX11_parish 23 = .ok (.aload_n 0, 1) := dc_42 (by decide +kernel)
theorem dX11_parish_24 : decode cX11_parish 24 = .ok (.getfield 10, 3) := dc_180 0 10 (by decide +kernel)
theorem dX11_parish_27 : decode cX11_parish 27 = .ok (.getfield 66, 3) := dc_180 0 66 (by decide +kernel)
theorem dX11_parish_30 : decode cX11_parish 30 = .ok (.getfield 70, 3) := dc_180 0 70 (by decide +kernel)
theorem dX11_parish_33 : decode cX11_parish 33 = .ok (.iload_n 1, 1) := dc_27 (by decide +kernel)
theorem dX11_parish_34 : decode cX11_parish 34 = .ok (.iaload, 1) := dc_46 (by decide +kernel)
theorem dX11_parish_35 : decode cX11_parish 35 = .ok (.istore_n 3, 1) := dc_62 (by decide +kernel)
theorem dX11_parish_36 : decode cX11_parish 36 = .ok (.aload_n 0, 1) := dc_42 (by decide +kernel)
theorem dX11_parish_37 : decode cX11_parish 37 = .ok (.getfield 10, 3) := dc_180 0 10 (by decide +kernel)
theorem dX11_parish_40 : decode cX11_parish 40 = .ok (.getfield 66, 3) := dc_180 0 66 (by decide +kernel)
theorem dX11_parish_43 : decode cX11_parish 43 = .ok (.getfield 70, 3) := dc_180 0 70 (by decide +kernel)
theorem dX11_parish_46 : decode cX11_parish 46 = .ok (.iload_n 1, 1) := dc_27 (by decide +kernel)
theorem dX11_parish_47 : decode cX11_parish 47 = .ok (.iload_n 2, 1) := dc_28 (by decide +kernel)
theorem dX11_parish_48 : decode cX11_parish 48 = .ok (.iastore, 1) := dc_79 (by decide +kernel)
theorem dX11_parish_49 : decode cX11_parish 49 = .ok (.iload_n 3, 1) := dc_29 (by decide +kernel)
theorem dX11_parish_50 : decode cX11_parish 50 = .ok (.ireturn, 1) := dc_172 (by decide +kernel)
theorem dX11_parish_20 : decode cX11_parish 20 = .ok (.bipush (-2), 2) := dc_16 254 (-2) (by decide +kernel)
theorem dX11_parish_22 : decode cX11_parish 22 = .ok (.ireturn, 1) := dc_172 (by decide +kernel)
theorem dX11_parish_7 : decode cX11_parish 7 = .ok (.iconst (-1), 1) := dc_2 (by decide +kernel)
theorem dX11_parish_8 : decode cX11_parish 8 = .ok (.ireturn, 1) := dc_172 (by decide +kernel)
abbrev R_X11_parish : Room := { frames := 2, cells := 0, slots := 0, locals := 42 }
set_option maxRecDepth 100000 in
set_option maxHeartbeats 4000000 in
theorem s_X11_parish {l : Launch} {n0 : Nat} {D : va_G} {cA : Nat → ClassId} {M : gM} (a : Int) (r_a : -2147483648 ≤ a ∧ a ≤ 2147483647) (b : Int) (r_b : -2147483648 ≤ b ∧ b ≤ 2147483647) {sz : Nat} (hsz : 206 ≤ sz) (I : gI sz M) (C : gC sz M)   : Met l yX11_parish (gWsOf yX11_parish cX11_parish 4 (Option.some Jvm.ClassFile.FieldType.int)) R_X11_parish (gPc n0 D cA [gA n0 0, gJ a, gJ b] M sz) (gQi n0 D cA sz (fun z M1 => (-2 ≤ z ∧ z ≤ 9999) ∧ gI sz M1 ∧ gC sz M1 ∧ gFr 2 M M1 ∧ (((¬ (0 ≤ a ∧ a ≤ 5) ∧ z = -1) ∨ ((0 ≤ a ∧ a ≤ 5) ∧ ¬ (0 ≤ b ∧ b ≤ 9999) ∧ z = -2)) ∧ (∀ k : Int, M1 3 k = M 3 k) ∨ ((0 ≤ a ∧ a ≤ 5) ∧ (0 ≤ b ∧ b ≤ 9999) ∧ z = M 3 a ∧ (∀ k : Int, ¬ k = a → M1 3 k = M 3 k) ∧ M1 3 a = b)))) 0 0 (fun q => n0 ≤ q) := by
  refine gMetI [gA n0 0, gJ a, gJ b] (by decide) (Nat.le_of_ble_eq_true rfl) ⟨rfl, rfl⟩ ?_
  intro p e s m args below meth cd Q X hq
  have X : gCx p s m args meth cd n0 D cA "ParishUnion" cX11_parish 4 := X
  show G p l e R_X11_parish s m args below meth cd n0 D cA 4 Q 0 0 M sz 0 [(0, gA n0 0), (1, gJ a), (2, gJ b)] []
  refine g_iload_n (n := 1) X 1 dX11_parish_0 rfl rfl rfl ?_
  refine g_callSi (n := 4) (As := [gJ a]) (rest := []) (cs1 := 0) (ss1 := 0) X (s_X11_isParish a (by omega) hsz I C ) okX11_isParish kw_3_26 kw_3_27 ⟨rfl, rfl⟩ ⟨Nat.le_of_ble_eq_true rfl, Nat.le_of_ble_eq_true rfl⟩ rfl rfl (Nat.le_of_ble_eq_true rfl) ⟨Nat.le_of_ble_eq_true rfl, Nat.le_of_ble_eq_true rfl⟩ rfl rfl dX11_parish_1 rfl (fun v1 M2 P3 => ?_)
  obtain ⟨rfl, rv1, xv1⟩ := P3
  refine g_if_ne (n := 7) (tgt := 9) X dX11_parish_4 (by decide) (by omega) rfl (fun c4 => ?_) (fun c4 => ?_)
  · refine g_iload_n (n := 10) X 2 dX11_parish_9 rfl rfl rfl ?_
    refine g_iconst (n := 11) X dX11_parish_10 rfl ?_
    refine g_sipush (n := 14) X dX11_parish_11 (by decide +kernel) rfl ?_
    refine g_callSi (n := 17) (As := [gJ b, gJ 0, gJ 9999]) (rest := []) (cs1 := 0) (ss1 := 0) X (s_X11_within b (by omega) 0 (by omega) 9999 (by omega) hsz I C ) okX11_within kw_3_29 kw_3_30 ⟨rfl, rfl⟩ ⟨Nat.le_of_ble_eq_true rfl, Nat.le_of_ble_eq_true rfl⟩ rfl rfl (Nat.le_of_ble_eq_true rfl) ⟨Nat.le_of_ble_eq_true rfl, Nat.le_of_ble_eq_true rfl⟩ rfl rfl dX11_parish_14 rfl (fun v5 M6 P7 => ?_)
    obtain ⟨rfl, rv5, xv5⟩ := P7
    refine g_if_ne (n := 20) (tgt := 23) X dX11_parish_17 (by decide) (by omega) rfl (fun c8 => ?_) (fun c8 => ?_)
    · refine g_aload_n (n := 24) X 0 dX11_parish_23 rfl rfl rfl ?_
      refine gg_11_0 (n := 27) (z := 1) X (by decide) (gsz hsz (by decide)) lay_0 kw_2_231 dX11_parish_24 rfl (rf_0_0 I (gsz hsz (by decide))) (by decide) ?_
      refine gg_9_0 (n := 30) (z := 2) X (by decide) (gsz hsz (by decide)) lay_1 kw_2_105 dX11_parish_27 rfl (rf_1_0 I (gsz hsz (by decide))) (by decide) ?_
      refine gg_3_0 (n := 33) (z := 3) X (by decide) (gsz hsz (by decide)) lay_2 kw_1_42 dX11_parish_30 rfl (rf_2_0 I (gsz hsz (by decide))) (by decide) ?_
      refine g_iload_n (n := 34) X 1 dX11_parish_33 rfl rfl rfl ?_
      obtain ⟨v9, hv9, rv9⟩ := gRd I (by decide) (gsz hsz (by decide)) (ra_3 a).1
      refine g_iald2 (n := 35) (v := v9) X (by decide) (gsz hsz (by decide)) lay_3 (by omega) (by omega) (by decide) dX11_parish_34 rfl hv9 ?_
      refine g_istore_n (n := 36) (L' := [(3, gJ v9), (0, gA n0 0), (1, gJ a), (2, gJ b)]) X dX11_parish_35 rfl (by decide) rfl rfl ?_
      refine g_aload_n (n := 37) X 1 dX11_parish_36 rfl rfl rfl ?_
      refine gg_11_0 (n := 40) (z := 1) X (by decide) (gsz hsz (by decide)) lay_0 kw_2_231 dX11_parish_37 rfl (rf_0_0 I (gsz hsz (by decide))) (by decide) ?_
      refine gg_9_0 (n := 43) (z := 2) X (by decide) (gsz hsz (by decide)) lay_1 kw_2_105 dX11_parish_40 rfl (rf_1_0 I (gsz hsz (by decide))) (by decide) ?_
      refine gg_3_0 (n := 46) (z := 3) X (by decide) (gsz hsz (by decide)) lay_2 kw_1_42 dX11_parish_43 rfl (rf_2_0 I (gsz hsz (by decide))) (by decide) ?_
      refine g_iload_n (n := 47) X 2 dX11_parish_46 rfl rfl rfl ?_
      refine g_iload_n (n := 48) X 3 dX11_parish_47 rfl rfl rfl ?_
      refine g_iast (n := 49) X (by decide) (gsz hsz (by decide)) lay_3 (by omega) (by omega) (by decide) dX11_parish_48 rfl ?_
      refine G.nm (fun M10 e11 => ?_)
      have IM10 : gI sz M10 := gI.set I (ra_3 a).1 (by omega) e11
      have CM10 : gC sz M10 := gC.set C (ra_3 a).2.1 e11
      refine g_iload_n (n := 50) X 0 dX11_parish_49 rfl rfl rfl ?_
      exact hq _ _ _ _ dX11_parish_50 ⟨by omega, IM10, CM10, (gFr.s gFr.rf e11 (ra_3 a).2.2 rfl), Or.inr ⟨by omega, by omega, by omega, (fun k hk => by rw [e11, gset_ne (by omega)]), (by rw [e11, gset_eq])⟩⟩
    · refine g_bipush (n := 22) X dX11_parish_20 (by decide +kernel) rfl ?_
      exact hq _ _ _ _ dX11_parish_22 ⟨by omega, I, C, gFr.rf, Or.inl ⟨by omega, fun k => rfl⟩⟩
  · refine g_iconst (n := 8) X dX11_parish_7 rfl ?_
    exact hq _ _ _ _ dX11_parish_8 ⟨by omega, I, C, gFr.rf, Or.inl ⟨by omega, fun k => rfl⟩⟩
theorem dX11_road_0 : decode cX11_road 0 = .ok (.iload_n 1, 1) := dc_27 (by decide +kernel)
theorem dX11_road_1 : decode cX11_road 1 = .ok (.invokestatic 58, 3) := dc_184 0 58 (by decide +kernel)
theorem dX11_road_4 : decode cX11_road 4 = .ok (.ifCond .eq 10, 3) := dc_153 0 10 10 (by decide +kernel)
theorem dX11_road_14 : decode cX11_road 14 = .ok (.iconst (-1), 1) := dc_2 (by decide +kernel)
theorem dX11_road_15 : decode cX11_road 15 = .ok (.ireturn, 1) := dc_172 (by decide +kernel)
theorem dX11_road_7 : decode cX11_road 7 = .ok (.iload_n 2, 1) := dc_28 (by decide +kernel)
theorem dX11_road_8 : decode cX11_road 8 = .ok (.invokestatic 58, 3) := dc_184 0 58 (by decide +kernel)
theorem dX11_road_11 : decode cX11_road 11 = .ok (.ifCond .ne 5, 3) := dc_154 0 5 5 (by decide +kernel)
theorem dX11_road_16 : decode cX11_road 16 = .ok (.iload_n 1, 1) := dc_27 (by decide +kernel)
theorem dX11_road_17 : decode cX11_road 17 = .ok (.iload_n 2, 1) := dc_28 (by decide +kernel)
theorem dX11_road_18 : decode cX11_road 18 = .ok (.if_icmp .eq 13, 3) := dc_159 0 13 13 (by decide +kernel)
theorem dX11_road_31 : decode cX11_road 31 = .ok (.bipush (-2), 2) := dc_16 254 (-2) (by decide +kernel)
theorem dX11_road_33 : decode cX11_road 33 = .ok (.ireturn, 1) := dc_172 (by decide +kernel)
theorem dX11_road_21 : decode cX11_road 21 = .ok (.iload_n 3, 1) := dc_29 (by decide +kernel)
theorem dX11_road_22 : decode cX11_road 22 = .ok (.iconst 1, 1) := dc_4 (by decide +kernel)
theorem dX11_road_23 : decode cX11_road 23 = .ok (.bipush 9, 2) := dc_16 9 9 (by decide +kernel)
theorem dX11_road_25 : decode cX11_road 25 = .ok (.invokestatic 62, 3) := dc_184 0 62 (by decide +kernel)
theorem dX11_road_28 : decode cX11_road 28 = .ok (.ifCond .ne 6, 3) := dc_154 0 6 6 (by decide +kernel)
theorem dX11_road_34 : decode cX11_road 34 = .ok (.aload_n 0, 1) := dc_42 (by decide +kernel)
theorem dX11_road_35 : decode cX11_road 35 = .ok (.getfield 10, 3) := dc_180 0 10 (by decide +kernel)
theorem dX11_road_38 : decode cX11_road 38 = .ok (.getfield 66, 3) := dc_180 0 66 (by decide +kernel)
theorem dX11_road_41 : decode cX11_road 41 = .ok (.iload_n 1, 1) := dc_27 (by decide +kernel)
theorem dX11_road_42 : decode cX11_road 42 = .ok (.iload_n 2, 1) := dc_28 (by decide +kernel)
theorem dX11_road_43 : decode cX11_road 43 = .ok (.iload_n 3, 1) := dc_29 (by decide +kernel)
theorem dX11_road_44 : decode cX11_road 44 = .ok (.invokevirtual 75, 3) := dc_182 0 75 (by decide +kernel)
theorem kw_3_36 : (Jvm.Cond.methodLink "ParishUnion" (75 : Nat) ({ cls := "ParishUnion$Land", name := "layRoad", desc := "(III)Z" } : Jvm.MethodName)) ∈ gT := gT_of (tb_3 _ (List.mem_of_getElem? (i := 36) rfl)) rfl
theorem kw_3_39 : (Jvm.Cond.code ({ cls := "ParishUnion$Land", name := "layRoad", desc := "(III)Z" } : Jvm.MethodName) prog_5_method_4_code (8 : Nat) (Option.some Jvm.ClassFile.FieldType.boolean)) ∈ gT := gT_of (tb_3 _ (List.mem_of_getElem? (i := 39) rfl)) rfl
theorem okX3_layRoad : gQok yX3_layRoad cX3_layRoad 8 (Option.some Jvm.ClassFile.FieldType.boolean) 3 := ⟨kw_3_39, kw_1_3, by decide +kernel, by decide +kernel, by decide +kernel⟩
theorem kw_3_37 : (Jvm.Cond.instanceMethod ({ cls := "ParishUnion$Land", name := "layRoad", desc := "(III)Z" } : Jvm.MethodName)) ∈ gT := gT_of (tb_3 _ (List.mem_of_getElem? (i := 37) rfl)) rfl
theorem kw_3_38 : (Jvm.Cond.selects "ParishUnion$Land" ({ cls := "ParishUnion$Land", name := "layRoad", desc := "(III)Z" } : Jvm.MethodName) ({ cls := "ParishUnion$Land", name := "layRoad", desc := "(III)Z" } : Jvm.MethodName)) ∈ gT := gT_of (tb_3 _ (List.mem_of_getElem? (i := 38) rfl)) rfl
theorem dX11_road_47 : decode cX11_road 47 = .ok (.ifCond .eq 7, 3) := dc_153 0 7 7 (by decide +kernel)
theorem dX11_road_54 : decode cX11_road 54 = .ok (.iconst 0, 1) := dc_3 (by decide +kernel)
theorem dX11_road_55 : decode cX11_road 55 = .ok (.ireturn, 1) := dc_172 (by decide +kernel)
theorem dX11_road_50 : decode cX11_road 50 = .ok (.iconst 1, 1) := dc_4 (by decide +kernel)
theorem dX11_road_51 : decode cX11_road 51 = .ok (.goto 4, 3) := dc_167 0 4 4 (by decide +kernel)
abbrev R_X11_road : Room := { frames := 5, cells := 0, slots := 0, locals := 147 }
set_option maxRecDepth 100000 in
set_option maxHeartbeats 4000000 in
theorem s_X11_road {l : Launch} {n0 : Nat} {D : va_G} {cA : Nat → ClassId} {M : gM} (a : Int) (r_a : -2147483648 ≤ a ∧ a ≤ 2147483647) (b : Int) (r_b : -2147483648 ≤ b ∧ b ≤ 2147483647) (c : Int) (r_c : -2147483648 ≤ c ∧ c ≤ 2147483647) {sz : Nat} (hsz : 206 ≤ sz) (I : gI sz M) (C : gC sz M)   : Met l yX11_road (gWsOf yX11_road cX11_road 4 (Option.some Jvm.ClassFile.FieldType.int)) R_X11_road (gPc n0 D cA [gA n0 0, gJ a, gJ b, gJ c] M sz) (gQi n0 D cA sz (fun z M1 => (-2 ≤ z ∧ z ≤ 1) ∧ gI sz M1 ∧ gC sz M1 ∧ gFr 4 M M1)) 0 0 (fun q => n0 ≤ q) := by
  refine gMetI [gA n0 0, gJ a, gJ b, gJ c] (by decide) (Nat.le_of_ble_eq_true rfl) ⟨rfl, rfl⟩ ?_
  intro p e s m args below meth cd Q X hq
  have X : gCx p s m args meth cd n0 D cA "ParishUnion" cX11_road 4 := X
  show G p l e R_X11_road s m args below meth cd n0 D cA 4 Q 0 0 M sz 0 [(0, gA n0 0), (1, gJ a), (2, gJ b), (3, gJ c)] []
  refine g_iload_n (n := 1) X 1 dX11_road_0 rfl rfl rfl ?_
  refine g_callSi (n := 4) (As := [gJ a]) (rest := []) (cs1 := 0) (ss1 := 0) X (s_X11_isParish a (by omega) hsz I C ) okX11_isParish kw_3_26 kw_3_27 ⟨rfl, rfl⟩ ⟨Nat.le_of_ble_eq_true rfl, Nat.le_of_ble_eq_true rfl⟩ rfl rfl (Nat.le_of_ble_eq_true rfl) ⟨Nat.le_of_ble_eq_true rfl, Nat.le_of_ble_eq_true rfl⟩ rfl rfl dX11_road_1 rfl (fun v1 M2 P3 => ?_)
  obtain ⟨rfl, rv1, xv1⟩ := P3
  refine g_if_eq (n := 7) (tgt := 14) X dX11_road_4 (by decide) (by omega) rfl (fun c4 => ?_) (fun c4 => ?_)
  · refine g_iconst (n := 15) X dX11_road_14 rfl ?_
    exact hq _ _ _ _ dX11_road_15 ⟨by omega, I, C, gFr.rf⟩
  · refine g_iload_n (n := 8) X 2 dX11_road_7 rfl rfl rfl ?_
    refine g_callSi (n := 11) (As := [gJ b]) (rest := []) (cs1 := 0) (ss1 := 0) X (s_X11_isParish b (by omega) hsz I C ) okX11_isParish kw_3_26 kw_3_27 ⟨rfl, rfl⟩ ⟨Nat.le_of_ble_eq_true rfl, Nat.le_of_ble_eq_true rfl⟩ rfl rfl (Nat.le_of_ble_eq_true rfl) ⟨Nat.le_of_ble_eq_true rfl, Nat.le_of_ble_eq_true rfl⟩ rfl rfl dX11_road_8 rfl (fun v5 M6 P7 => ?_)
    obtain ⟨rfl, rv5, xv5⟩ := P7
    refine g_if_ne (n := 14) (tgt := 16) X dX11_road_11 (by decide) (by omega) rfl (fun c8 => ?_) (fun c8 => ?_)
    · refine g_iload_n (n := 17) X 1 dX11_road_16 rfl rfl rfl ?_
      refine g_iload_n (n := 18) X 2 dX11_road_17 rfl rfl rfl ?_
      refine g_icmp_eq (n := 21) (tgt := 31) X dX11_road_18 (by decide) (by omega) (by omega) rfl (fun c9 => ?_) (fun c9 => ?_)
      · refine g_bipush (n := 33) X dX11_road_31 (by decide +kernel) rfl ?_
        exact hq _ _ _ _ dX11_road_33 ⟨by omega, I, C, gFr.rf⟩
      · refine g_iload_n (n := 22) X 3 dX11_road_21 rfl rfl rfl ?_
        refine g_iconst (n := 23) X dX11_road_22 rfl ?_
        refine g_bipush (n := 25) X dX11_road_23 (by decide +kernel) rfl ?_
        refine g_callSi (n := 28) (As := [gJ c, gJ 1, gJ 9]) (rest := []) (cs1 := 0) (ss1 := 0) X (s_X11_within c (by omega) 1 (by omega) 9 (by omega) hsz I C ) okX11_within kw_3_29 kw_3_30 ⟨rfl, rfl⟩ ⟨Nat.le_of_ble_eq_true rfl, Nat.le_of_ble_eq_true rfl⟩ rfl rfl (Nat.le_of_ble_eq_true rfl) ⟨Nat.le_of_ble_eq_true rfl, Nat.le_of_ble_eq_true rfl⟩ rfl rfl dX11_road_25 rfl (fun v10 M11 P12 => ?_)
        obtain ⟨rfl, rv10, xv10⟩ := P12
        refine g_if_ne (n := 31) (tgt := 34) X dX11_road_28 (by decide) (by omega) rfl (fun c13 => ?_) (fun c13 => ?_)
        · refine g_aload_n (n := 35) X 0 dX11_road_34 rfl rfl rfl ?_
          refine gg_11_0 (n := 38) (z := 1) X (by decide) (gsz hsz (by decide)) lay_0 kw_2_231 dX11_road_35 rfl (rf_0_0 I (gsz hsz (by decide))) (by decide) ?_
          refine gg_9_0 (n := 41) (z := 2) X (by decide) (gsz hsz (by decide)) lay_1 kw_2_105 dX11_road_38 rfl (rf_1_0 I (gsz hsz (by decide))) (by decide) ?_
          refine g_iload_n (n := 42) X 1 dX11_road_41 rfl rfl rfl ?_
          refine g_iload_n (n := 43) X 2 dX11_road_42 rfl rfl rfl ?_
          refine g_iload_n (n := 44) X 3 dX11_road_43 rfl rfl rfl ?_
          refine g_callVi (n := 47) (As := [gJ a, gJ b, gJ c]) (rest := []) (cs1 := 0) (ss1 := 0) X (s_X3_layRoad a (by omega) b (by omega) c (by omega) hsz I C ) okX3_layRoad kw_3_36 ⟨kw_3_37, kw_3_38⟩ ⟨rfl, rfl⟩ ⟨Nat.le_of_ble_eq_true rfl, Nat.le_of_ble_eq_true rfl⟩ rfl (by decide) (gsz hsz (by decide)) lay_2 rfl rfl (Nat.le_of_ble_eq_true rfl) ⟨Nat.le_of_ble_eq_true rfl, Nat.le_of_ble_eq_true rfl⟩ rfl rfl dX11_road_44 rfl (fun v14 M15 P16 => ?_)
          obtain ⟨rv14, IM15, CM15, FM15⟩ := P16
          refine g_if_eq (n := 50) (tgt := 54) X dX11_road_47 (by decide) (by omega) rfl (fun c17 => ?_) (fun c17 => ?_)
          · refine g_iconst (n := 55) X dX11_road_54 rfl ?_
            exact hq _ _ _ _ dX11_road_55 ⟨by omega, IM15, CM15, (gFr.c gFr.rf FM15 rfl)⟩
          · refine g_iconst (n := 51) X dX11_road_50 rfl ?_
            refine g_goto (tgt := 55) X dX11_road_51 (by decide) ?_
            exact hq _ _ _ _ dX11_road_55 ⟨by omega, IM15, CM15, (gFr.c gFr.rf FM15 rfl)⟩
        · refine g_bipush (n := 33) X dX11_road_31 (by decide +kernel) rfl ?_
          exact hq _ _ _ _ dX11_road_33 ⟨by omega, I, C, gFr.rf⟩
    · refine g_iconst (n := 15) X dX11_road_14 rfl ?_
      exact hq _ _ _ _ dX11_road_15 ⟨by omega, I, C, gFr.rf⟩
theorem dX11_far_0 : decode cX11_far 0 = .ok (.iload_n 1, 1) := dc_27 (by decide +kernel)
theorem dX11_far_1 : decode cX11_far 1 = .ok (.invokestatic 58, 3) := dc_184 0 58 (by decide +kernel)
theorem dX11_far_4 : decode cX11_far 4 = .ok (.ifCond .eq 10, 3) := dc_153 0 10 10 (by decide +kernel)
theorem dX11_far_14 : decode cX11_far 14 = .ok (.iconst (-1), 1) := dc_2 (by decide +kernel)
theorem dX11_far_15 : decode cX11_far 15 = .ok (.ireturn, 1) := dc_172 (by decide +kernel)
theorem dX11_far_7 : decode cX11_far 7 = .ok (.iload_n 2, 1) := dc_28 (by decide +kernel)
theorem dX11_far_8 : decode cX11_far 8 = .ok (.invokestatic 58, 3) := dc_184 0 58 (by decide +kernel)
theorem dX11_far_11 : decode cX11_far 11 = .ok (.ifCond .ne 5, 3) := dc_154 0 5 5 (by decide +kernel)
theorem dX11_far_16 : decode cX11_far 16 = .ok (.aload_n 0, 1) := dc_42 (by decide +kernel)
theorem dX11_far_17 : decode cX11_far 17 = .ok (.getfield 10, 3) := dc_180 0 10 (by decide +kernel)
theorem dX11_far_20 : decode cX11_far 20 = .ok (.getfield 66, 3) := dc_180 0 66 (by decide +kernel)
theorem dX11_far_23 : decode cX11_far 23 = .ok (.iload_n 1, 1) := dc_27 (by decide +kernel)
theorem dX11_far_24 : decode cX11_far 24 = .ok (.iload_n 2, 1) := dc_28 (by decide +kernel)
theorem dX11_far_25 : decode cX11_far 25 = .ok (.invokevirtual 78, 3) := dc_182 0 78 (by decide +kernel)
theorem kw_3_51 : (Jvm.Cond.methodLink "ParishUnion" (78 : Nat) ({ cls := "ParishUnion$Land", name := "distance", desc := "(II)I" } : Jvm.MethodName)) ∈ gT := gT_of (tb_3 _ (List.mem_of_getElem? (i := 51) rfl)) rfl
theorem dX11_far_28 : decode cX11_far 28 = .ok (.ireturn, 1) := dc_172 (by decide +kernel)
abbrev R_X11_far : Room := { frames := 2, cells := 0, slots := 0, locals := 42 }
set_option maxRecDepth 100000 in
set_option maxHeartbeats 4000000 in
theorem s_X11_far {l : Launch} {n0 : Nat} {D : va_G} {cA : Nat → ClassId} {M : gM} (a : Int) (r_a : -2147483648 ≤ a ∧ a ≤ 2147483647) (b : Int) (r_b : -2147483648 ≤ b ∧ b ≤ 2147483647) {sz : Nat} (hsz : 206 ≤ sz) (I : gI sz M) (C : gC sz M)   : Met l yX11_far (gWsOf yX11_far cX11_far 3 (Option.some Jvm.ClassFile.FieldType.int)) R_X11_far (gPc n0 D cA [gA n0 0, gJ a, gJ b] M sz) (gQi n0 D cA sz (fun z M1 => M = M1 ∧ (-1 ≤ z ∧ z ≤ 99))) 0 0 (fun q => n0 ≤ q) := by
  refine gMetI [gA n0 0, gJ a, gJ b] (by decide) (Nat.le_of_ble_eq_true rfl) ⟨rfl, rfl⟩ ?_
  intro p e s m args below meth cd Q X hq
  have X : gCx p s m args meth cd n0 D cA "ParishUnion" cX11_far 3 := X
  show G p l e R_X11_far s m args below meth cd n0 D cA 3 Q 0 0 M sz 0 [(0, gA n0 0), (1, gJ a), (2, gJ b)] []
  refine g_iload_n (n := 1) X 1 dX11_far_0 rfl rfl rfl ?_
  refine g_callSi (n := 4) (As := [gJ a]) (rest := []) (cs1 := 0) (ss1 := 0) X (s_X11_isParish a (by omega) hsz I C ) okX11_isParish kw_3_26 kw_3_27 ⟨rfl, rfl⟩ ⟨Nat.le_of_ble_eq_true rfl, Nat.le_of_ble_eq_true rfl⟩ rfl rfl (Nat.le_of_ble_eq_true rfl) ⟨Nat.le_of_ble_eq_true rfl, Nat.le_of_ble_eq_true rfl⟩ rfl rfl dX11_far_1 rfl (fun v1 M2 P3 => ?_)
  obtain ⟨rfl, rv1, xv1⟩ := P3
  refine g_if_eq (n := 7) (tgt := 14) X dX11_far_4 (by decide) (by omega) rfl (fun c4 => ?_) (fun c4 => ?_)
  · refine g_iconst (n := 15) X dX11_far_14 rfl ?_
    exact hq _ _ _ _ dX11_far_15 ⟨rfl, by omega⟩
  · refine g_iload_n (n := 8) X 2 dX11_far_7 rfl rfl rfl ?_
    refine g_callSi (n := 11) (As := [gJ b]) (rest := []) (cs1 := 0) (ss1 := 0) X (s_X11_isParish b (by omega) hsz I C ) okX11_isParish kw_3_26 kw_3_27 ⟨rfl, rfl⟩ ⟨Nat.le_of_ble_eq_true rfl, Nat.le_of_ble_eq_true rfl⟩ rfl rfl (Nat.le_of_ble_eq_true rfl) ⟨Nat.le_of_ble_eq_true rfl, Nat.le_of_ble_eq_true rfl⟩ rfl rfl dX11_far_8 rfl (fun v5 M6 P7 => ?_)
    obtain ⟨rfl, rv5, xv5⟩ := P7
    refine g_if_ne (n := 14) (tgt := 16) X dX11_far_11 (by decide) (by omega) rfl (fun c8 => ?_) (fun c8 => ?_)
    · refine g_aload_n (n := 17) X 0 dX11_far_16 rfl rfl rfl ?_
      refine gg_11_0 (n := 20) (z := 1) X (by decide) (gsz hsz (by decide)) lay_0 kw_2_231 dX11_far_17 rfl (rf_0_0 I (gsz hsz (by decide))) (by decide) ?_
      refine gg_9_0 (n := 23) (z := 2) X (by decide) (gsz hsz (by decide)) lay_1 kw_2_105 dX11_far_20 rfl (rf_1_0 I (gsz hsz (by decide))) (by decide) ?_
      refine g_iload_n (n := 24) X 1 dX11_far_23 rfl rfl rfl ?_
      refine g_iload_n (n := 25) X 2 dX11_far_24 rfl rfl rfl ?_
      refine g_callVi (n := 28) (As := [gJ a, gJ b]) (rest := []) (cs1 := 0) (ss1 := 0) X (s_X3_distance a (by omega) b (by omega) hsz I C ) okX3_distance kw_3_51 ⟨kw_3_41, kw_3_42⟩ ⟨rfl, rfl⟩ ⟨Nat.le_of_ble_eq_true rfl, Nat.le_of_ble_eq_true rfl⟩ rfl (by decide) (gsz hsz (by decide)) lay_2 rfl rfl (Nat.le_of_ble_eq_true rfl) ⟨Nat.le_of_ble_eq_true rfl, Nat.le_of_ble_eq_true rfl⟩ rfl rfl dX11_far_25 rfl (fun v9 M10 P11 => ?_)
      obtain ⟨rfl, rv9, xv9⟩ := P11
      exact hq _ _ _ _ dX11_far_28 ⟨rfl, by omega⟩
    · refine g_iconst (n := 15) X dX11_far_14 rfl ?_
      exact hq _ _ _ _ dX11_far_15 ⟨rfl, by omega⟩
theorem dX11_person_0 : decode cX11_person 0 = .ok (.iload 4, 2) := dc_21 4 (by decide +kernel)
theorem dX11_person_2 : decode cX11_person 2 = .ok (.iconst (-1), 1) := dc_2 (by decide +kernel)
theorem dX11_person_3 : decode cX11_person 3 = .ok (.if_icmp .eq 7, 3) := dc_159 0 7 7 (by decide +kernel)
theorem dX11_person_10 : decode cX11_person 10 = .ok (.iconst 0, 1) := dc_3 (by decide +kernel)
theorem dX11_person_11 : decode cX11_person 11 = .ok (.istore 6, 2) := dc_54 6 (by decide +kernel)
theorem dX11_person_13 : decode cX11_person 13 = .ok (.iload_n 3, 1) := dc_29 (by decide +kernel)
theorem dX11_person_14 : decode cX11_person 14 = .ok (.invokestatic 58, 3) := dc_184 0 58 (by decide +kernel)
theorem dX11_person_17 : decode cX11_person 17 = .ok (.ifCond .eq 17, 3) := dc_153 0 17 17 (by decide +kernel)
theorem dX11_person_34 : decode cX11_person 34 = .ok (.iconst (-1), 1) := dc_2 (by decide +kernel)
theorem dX11_person_35 : decode cX11_person 35 = .ok (.ireturn, 1) := dc_172 (by decide +kernel)
theorem dX11_person_20 : decode cX11_person 20 = .ok (.iload 6, 2) := dc_21 6 (by decide +kernel)
theorem dX11_person_22 : decode cX11_person 22 = .ok (.ifCond .eq 14, 3) := dc_153 0 14 14 (by decide +kernel)
theorem dX11_person_36 : decode cX11_person 36 = .ok (.iload_n 1, 1) := dc_27 (by decide +kernel)
theorem dX11_person_37 : decode cX11_person 37 = .ok (.iconst 0, 1) := dc_3 (by decide +kernel)
theorem dX11_person_38 : decode cX11_person 38 = .ok (.iconst 1, 1) := dc_4 (by decide +kernel)
theorem dX11_person_39 : decode cX11_person 39 = .ok (.invokestatic 62, 3) := dc_184 0 62 (by decide +kernel)
theorem dX11_person_42 : decode cX11_person 42 = .ok (.ifCond .eq 31, 3) := dc_153 0 31 31 (by decide +kernel)
theorem dX11_person_73 : decode cX11_person 73 = .ok (.bipush (-2), 2) := dc_16 254 (-2) (by decide +kernel)
theorem dX11_person_75 : decode cX11_person 75 = .ok (.ireturn, 1) := dc_172 (by decide +kernel)
theorem dX11_person_45 : decode cX11_person 45 = .ok (.iload_n 2, 1) := dc_28 (by decide +kernel)
theorem dX11_person_46 : decode cX11_person 46 = .ok (.sipush (-3000), 3) := dc_17 244 72 (-3000) (by decide +kernel)
theorem dX11_person_49 : decode cX11_person 49 = .ok (.aload_n 0, 1) := dc_42 (by decide +kernel)
theorem dX11_person_50 : decode cX11_person 50 = .ok (.getfield 10, 3) := dc_180 0 10 (by decide +kernel)
theorem dX11_person_53 : decode cX11_person 53 = .ok (.getfield 85, 3) := dc_180 0 85 (by decide +kernel)
theorem dX11_person_56 : decode cX11_person 56 = .ok (.invokestatic 62, 3) := dc_184 0 62 (by decide +kernel)
theorem dX11_person_59 : decode cX11_person 59 = .ok (.ifCond .eq 14, 3) := dc_153 0 14 14 (by decide +kernel)
theorem dX11_person_62 : decode cX11_person 62 = .ok (.iload 5, 2) := dc_21 5 (by decide +kernel)
theorem dX11_person_64 : decode cX11_person 64 = .ok (.iconst 0, 1) := dc_3 (by decide +kernel)
theorem dX11_person_65 : decode cX11_person 65 = .ok (.bipush 9, 2) := dc_16 9 9 (by decide +kernel)
theorem dX11_person_67 : decode cX11_person 67 = .ok (.invokestatic 62, 3) := dc_184 0 62 (by decide +kernel)
theorem dX11_person_70 : decode cX11_person 70 = .ok (.ifCond .ne 6, 3) := dc_154 0 6 6 (by decide +kernel)
theorem dX11_person_76 : decode cX11_person 76 = .ok (.iload 6, 2) := dc_21 6 (by decide +kernel)
theorem dX11_person_78 : decode cX11_person 78 = .ok (.ifCond .eq 39, 3) := dc_153 0 39 39 (by decide +kernel)
theorem dX11_person_117 : decode cX11_person 117 = .ok (.aload_n 0, 1) := dc_42 (by decide +kernel)
theorem dX11_person_118 : decode cX11_person 118 = .ok (.getfield 10, 3) := dc_180 0 10 (by decide +kernel)
theorem dX11_person_121 : decode cX11_person 121 = .ok (.getfield 98, 3) := dc_180 0 98 (by decide +kernel)
theorem dX11_person_124 : decode cX11_person 124 = .ok (.bipush 16, 2) := dc_16 16 16 (by decide +kernel)
theorem dX11_person_126 : decode cX11_person 126 = .ok (.if_icmp .lt 6, 3) := dc_161 0 6 6 (by decide +kernel)
theorem dX11_person_132 : decode cX11_person 132 = .ok (.aload_n 0, 1) := dc_42 (by decide +kernel)
theorem dX11_person_133 : decode cX11_person 133 = .ok (.getfield 10, 3) := dc_180 0 10 (by decide +kernel)
theorem dX11_person_136 : decode cX11_person 136 = .ok (.getfield 89, 3) := dc_180 0 89 (by decide +kernel)
theorem dX11_person_139 : decode cX11_person 139 = .ok (.aload_n 0, 1) := dc_42 (by decide +kernel)
theorem dX11_person_140 : decode cX11_person 140 = .ok (.getfield 10, 3) := dc_180 0 10 (by decide +kernel)
theorem dX11_person_143 : decode cX11_person 143 = .ok (.getfield 98, 3) := dc_180 0 98 (by decide +kernel)
theorem dX11_person_146 : decode cX11_person 146 = .ok (.aaload, 1) := dc_50 (by decide +kernel)
theorem dX11_person_147 : decode cX11_person 147 = .ok (.iload_n 1, 1) := dc_27 (by decide +kernel)
theorem dX11_person_148 : decode cX11_person 148 = .ok (.iload_n 2, 1) := dc_28 (by decide +kernel)
theorem dX11_person_149 : decode cX11_person 149 = .ok (.iload_n 3, 1) := dc_29 (by decide +kernel)
theorem dX11_person_150 : decode cX11_person 150 = .ok (.iload 4, 2) := dc_21 4 (by decide +kernel)
theorem dX11_person_152 : decode cX11_person 152 = .ok (.iload 5, 2) := dc_21 5 (by decide +kernel)
theorem dX11_person_154 : decode cX11_person 154 = .ok (.invokevirtual 101, 3) := dc_182 0 101 (by decide +kernel)
theorem kw_3_60 : (Jvm.Cond.methodLink "ParishUnion" (101 : Nat) ({ cls := "ParishUnion$Person", name := "begin", desc := "(IIIII)V" } : Jvm.MethodName)) ∈ gT := gT_of (tb_3 _ (List.mem_of_getElem? (i := 60) rfl)) rfl
theorem kw_3_63 : (Jvm.Cond.code ({ cls := "ParishUnion$Person", name := "begin", desc := "(IIIII)V" } : Jvm.MethodName) prog_8_method_2_code (6 : Nat) (Option.none : Option Jvm.ClassFile.FieldType)) ∈ gT := gT_of (tb_3 _ (List.mem_of_getElem? (i := 63) rfl)) rfl
theorem okX6_begin : gQok yX6_begin cX6_begin 6 (Option.none : Option Jvm.ClassFile.FieldType) 5 := ⟨kw_3_63, kw_1_8, by decide +kernel, by decide +kernel, by decide +kernel⟩
theorem kw_3_61 : (Jvm.Cond.instanceMethod ({ cls := "ParishUnion$Person", name := "begin", desc := "(IIIII)V" } : Jvm.MethodName)) ∈ gT := gT_of (tb_3 _ (List.mem_of_getElem? (i := 61) rfl)) rfl
theorem kw_3_62 : (Jvm.Cond.selects "ParishUnion$Person" ({ cls := "ParishUnion$Person", name := "begin", desc := "(IIIII)V" } : Jvm.MethodName) ({ cls := "ParishUnion$Person", name := "begin", desc := "(IIIII)V" } : Jvm.MethodName)) ∈ gT := gT_of (tb_3 _ (List.mem_of_getElem? (i := 62) rfl)) rfl
theorem dX11_person_157 : decode cX11_person 157 = .ok (.aload_n 0, 1) := dc_42 (by decide +kernel)
theorem dX11_person_158 : decode cX11_person 158 = .ok (.getfield 10, 3) := dc_180 0 10 (by decide +kernel)
theorem dX11_person_161 : decode cX11_person 161 = .ok (.dup, 1) := dc_89 (by decide +kernel)
theorem dX11_person_162 : decode cX11_person 162 = .ok (.getfield 98, 3) := dc_180 0 98 (by decide +kernel)
theorem dX11_person_165 : decode cX11_person 165 = .ok (.dup_x1, 1) := dc_90 (by decide +kernel)
theorem dX11_person_166 : decode cX11_person 166 = .ok (.iconst 1, 1) := dc_4 (by decide +kernel)
theorem dX11_person_167 : decode cX11_person 167 = .ok (.iadd, 1) := dc_96 (by decide +kernel)
theorem dX11_person_168 : decode cX11_person 168 = .ok (.putfield 98, 3) := dc_181 0 98 (by decide +kernel)
theorem dX11_person_171 : decode cX11_person 171 = .ok (.ireturn, 1) := dc_172 (by decide +kernel)
theorem dX11_person_129 : decode cX11_person 129 = .ok (.bipush (-4), 2) := dc_16 252 (-4) (by decide +kernel)
theorem dX11_person_131 : decode cX11_person 131 = .ok (.ireturn, 1) := dc_172 (by decide +kernel)
theorem dX11_person_6 : decode cX11_person 6 = .ok (.iconst 1, 1) := dc_4 (by decide +kernel)
theorem dX11_person_7 : decode cX11_person 7 = .ok (.goto 4, 3) := dc_167 0 4 4 (by decide +kernel)
theorem dX11_person_25 : decode cX11_person 25 = .ok (.aload_n 0, 1) := dc_42 (by decide +kernel)
theorem dX11_person_26 : decode cX11_person 26 = .ok (.iload 4, 2) := dc_21 4 (by decide +kernel)
theorem dX11_person_28 : decode cX11_person 28 = .ok (.invokevirtual 82, 3) := dc_182 0 82 (by decide +kernel)
theorem kw_3_56 : (Jvm.Cond.methodLink "ParishUnion" (82 : Nat) ({ cls := "ParishUnion", name := "isPerson", desc := "(I)Z" } : Jvm.MethodName)) ∈ gT := gT_of (tb_3 _ (List.mem_of_getElem? (i := 56) rfl)) rfl
theorem kw_3_59 : (Jvm.Cond.code ({ cls := "ParishUnion", name := "isPerson", desc := "(I)Z" } : Jvm.MethodName) prog_1_method_51_code (2 : Nat) (Option.some Jvm.ClassFile.FieldType.boolean)) ∈ gT := gT_of (tb_3 _ (List.mem_of_getElem? (i := 59) rfl)) rfl
theorem okX11_isPerson : gQok yX11_isPerson cX11_isPerson 2 (Option.some Jvm.ClassFile.FieldType.boolean) 1 := ⟨kw_3_59, kw_1_1, by decide +kernel, by decide +kernel, by decide +kernel⟩
theorem kw_3_58 : (Jvm.Cond.instanceMethod ({ cls := "ParishUnion", name := "isPerson", desc := "(I)Z" } : Jvm.MethodName)) ∈ gT := gT_of (tb_3 _ (List.mem_of_getElem? (i := 58) rfl)) rfl
theorem kw_0_0 : (Jvm.Cond.selects "ParishUnion" ({ cls := "ParishUnion", name := "isPerson", desc := "(I)Z" } : Jvm.MethodName) ({ cls := "ParishUnion", name := "isPerson", desc := "(I)Z" } : Jvm.MethodName)) ∈ gT := gT_of (tb_0 _ (List.mem_of_getElem? (i := 0) rfl)) rfl
theorem dX11_person_31 : decode cX11_person 31 = .ok (.ifCond .ne 5, 3) := dc_154 0 5 5 (by decide +kernel)
theorem dX11_person_81 : decode cX11_person 81 = .ok (.aload_n 0, 1) := dc_42 (by decide +kernel)
theorem dX11_person_82 : decode cX11_person 82 = .ok (.getfield 10, 3) := dc_180 0 10 (by decide +kernel)
theorem dX11_person_85 : decode cX11_person 85 = .ok (.getfield 89, 3) := dc_180 0 89 (by decide +kernel)
theorem dX11_person_88 : decode cX11_person 88 = .ok (.iload 4, 2) := dc_21 4 (by decide +kernel)
theorem dX11_person_90 : decode cX11_person 90 = .ok (.aaload, 1) := dc_50 (by decide +kernel)
theorem dX11_person_91 : decode cX11_person 91 = .ok (.getfield 92, 3) := dc_180 0 92 (by decide +kernel)
theorem kw_1_176 : (Jvm.Cond.fieldLink "ParishUnion" (92 : Nat) "ParishUnion$Person" "sex" "I") ∈ gT := gT_of (tb_1 _ (List.mem_of_getElem? (i := 176) rfl)) rfl
theorem dX11_person_94 : decode cX11_person 94 = .ok (.ifCond .ne 20, 3) := dc_154 0 20 20 (by decide +kernel)
theorem dX11_person_114 : decode cX11_person 114 = .ok (.bipush (-2), 2) := dc_16 254 (-2) (by decide +kernel)
theorem dX11_person_116 : decode cX11_person 116 = .ok (.ireturn, 1) := dc_172 (by decide +kernel)
theorem dX11_person_97 : decode cX11_person 97 = .ok (.aload_n 0, 1) := dc_42 (by decide +kernel)
theorem dX11_person_98 : decode cX11_person 98 = .ok (.getfield 10, 3) := dc_180 0 10 (by decide +kernel)
theorem dX11_person_101 : decode cX11_person 101 = .ok (.getfield 89, 3) := dc_180 0 89 (by decide +kernel)
theorem dX11_person_104 : decode cX11_person 104 = .ok (.iload 4, 2) := dc_21 4 (by decide +kernel)
theorem dX11_person_106 : decode cX11_person 106 = .ok (.aaload, 1) := dc_50 (by decide +kernel)
theorem dX11_person_107 : decode cX11_person 107 = .ok (.getfield 95, 3) := dc_180 0 95 (by decide +kernel)
theorem kw_1_180 : (Jvm.Cond.fieldLink "ParishUnion" (95 : Nat) "ParishUnion$Person" "born" "I") ∈ gT := gT_of (tb_1 _ (List.mem_of_getElem? (i := 180) rfl)) rfl
theorem dX11_person_110 : decode cX11_person 110 = .ok (.iload_n 2, 1) := dc_28 (by decide +kernel)
theorem dX11_person_111 : decode cX11_person 111 = .ok (.if_icmp .lt 6, 3) := dc_161 0 6 6 (by decide +kernel)
abbrev R_X11_person : Room := { frames := 2, cells := 0, slots := 0, locals := 46 }
set_option maxRecDepth 100000 in
set_option maxHeartbeats 4000000 in
theorem s_X11_person {l : Launch} {n0 : Nat} {D : va_G} {cA : Nat → ClassId} {M : gM} (a : Int) (r_a : -2147483648 ≤ a ∧ a ≤ 2147483647) (b : Int) (r_b : -2147483648 ≤ b ∧ b ≤ 2147483647) (c : Int) (r_c : -2147483648 ≤ c ∧ c ≤ 2147483647) (d : Int) (r_d : -2147483648 ≤ d ∧ d ≤ 2147483647) (f : Int) (r_f : -2147483648 ≤ f ∧ f ≤ 2147483647) {sz : Nat} (hsz : 206 ≤ sz) (I : gI sz M) (C : gC sz M)   : Met l yX11_person (gWsOf yX11_person cX11_person 7 (Option.some Jvm.ClassFile.FieldType.int)) R_X11_person (gPc n0 D cA [gA n0 0, gJ a, gJ b, gJ c, gJ d, gJ f] M sz) (gQi n0 D cA sz (fun z M1 => (-4 ≤ z ∧ z ≤ 15) ∧ gI sz M1 ∧ gC sz M1 ∧ gFr 1048632 M M1 ∧ (((((¬ (0 ≤ c ∧ c ≤ 5) ∨ (¬ d = -1 ∧ ¬ (0 ≤ d ∧ d < M 1 10))) ∧ z = -1) ∨ (¬ (¬ (0 ≤ c ∧ c ≤ 5) ∨ (¬ d = -1 ∧ ¬ (0 ≤ d ∧ d < M 1 10))) ∧ (¬ (0 ≤ a ∧ a ≤ 1) ∨ ¬ (-3000 ≤ b ∧ b ≤ M 1 15) ∨ ¬ (0 ≤ f ∧ f ≤ 9) ∨ (¬ d = -1 ∧ (¬ M (31 + d) 0 = 0 ∨ b ≤ M (31 + d) 1))) ∧ z = -2) ∨ (¬ (¬ (0 ≤ c ∧ c ≤ 5) ∨ (¬ d = -1 ∧ ¬ (0 ≤ d ∧ d < M 1 10))) ∧ ¬ (¬ (0 ≤ a ∧ a ≤ 1) ∨ ¬ (-3000 ≤ b ∧ b ≤ M 1 15) ∨ ¬ (0 ≤ f ∧ f ≤ 9) ∨ (¬ d = -1 ∧ (¬ M (31 + d) 0 = 0 ∨ b ≤ M (31 + d) 1))) ∧ M 1 10 = 16 ∧ z = -4)) ∧ M1 1 10 = M 1 10 ∧ (∀ p : Int, 0 ≤ p → p < 16 → M1 (31 + p) 0 = M (31 + p) 0) ∧ (∀ p : Int, 0 ≤ p → p < 16 → M1 (31 + p) 1 = M (31 + p) 1) ∧ (∀ p : Int, 0 ≤ p → p < 16 → M1 (31 + p) 11 = M (31 + p) 11)) ∨ ((¬ (¬ (0 ≤ c ∧ c ≤ 5) ∨ (¬ d = -1 ∧ ¬ (0 ≤ d ∧ d < M 1 10))) ∧ ¬ (¬ (0 ≤ a ∧ a ≤ 1) ∨ ¬ (-3000 ≤ b ∧ b ≤ M 1 15) ∨ ¬ (0 ≤ f ∧ f ≤ 9) ∨ (¬ d = -1 ∧ (¬ M (31 + d) 0 = 0 ∨ b ≤ M (31 + d) 1))) ∧ M 1 10 < 16 ∧ z = M 1 10) ∧ M1 1 10 = M 1 10 + 1 ∧ (∀ p : Int, 0 ≤ p → p < 16 → ¬ p = M 1 10 → M1 (31 + p) 0 = M (31 + p) 0) ∧ (∀ p : Int, 0 ≤ p → p < 16 → ¬ p = M 1 10 → M1 (31 + p) 1 = M (31 + p) 1) ∧ (∀ p : Int, 0 ≤ p → p < 16 → ¬ p = M 1 10 → M1 (31 + p) 11 = M (31 + p) 11) ∧ M1 (31 + M 1 10) 0 = a ∧ M1 (31 + M 1 10) 1 = b ∧ M1 (31 + M 1 10) 11 = 0)))) 0 0 (fun q => n0 ≤ q) := by
  refine gMetI [gA n0 0, gJ a, gJ b, gJ c, gJ d, gJ f] (by decide) (Nat.le_of_ble_eq_true rfl) ⟨rfl, rfl⟩ ?_
  intro p e s m args below meth cd Q X hq
  have X : gCx p s m args meth cd n0 D cA "ParishUnion" cX11_person 7 := X
  show G p l e R_X11_person s m args below meth cd n0 D cA 7 Q 0 0 M sz 0 [(0, gA n0 0), (1, gJ a), (2, gJ b), (3, gJ c), (4, gJ d), (5, gJ f)] []
  obtain ⟨v1, hv1, rv1⟩ := gRd I (by decide) (gsz hsz (by decide)) rc_1_10.1
  obtain ⟨v2, hv2, rv2⟩ := gRd I (by decide) (gsz hsz (by decide)) rc_1_15.1
  refine g_iload (n := 2) X 4 dX11_person_0 rfl rfl ?_
  refine g_iconst (n := 3) X dX11_person_2 rfl ?_
  refine g_icmp_eq (n := 6) (tgt := 10) X dX11_person_3 (by decide) (by omega) (by omega) rfl (fun c3 => ?_) (fun c3 => ?_)
  · refine g_iconst (n := 11) X dX11_person_10 rfl ?_
    refine g_istore (n := 13) (L' := [(6, gJ 0), (0, gA n0 0), (1, gJ a), (2, gJ b), (3, gJ c), (4, gJ d), (5, gJ f)]) X dX11_person_11 (by decide) rfl rfl ?_
    refine g_iload_n (n := 14) X 4 dX11_person_13 rfl rfl rfl ?_
    refine g_callSi (n := 17) (As := [gJ c]) (rest := []) (cs1 := 0) (ss1 := 0) X (s_X11_isParish c (by omega) hsz I C ) okX11_isParish kw_3_26 kw_3_27 ⟨rfl, rfl⟩ ⟨Nat.le_of_ble_eq_true rfl, Nat.le_of_ble_eq_true rfl⟩ rfl rfl (Nat.le_of_ble_eq_true rfl) ⟨Nat.le_of_ble_eq_true rfl, Nat.le_of_ble_eq_true rfl⟩ rfl rfl dX11_person_14 rfl (fun v4 M5 P6 => ?_)
    obtain ⟨rfl, rv4, xv4⟩ := P6
    refine g_if_eq (n := 20) (tgt := 34) X dX11_person_17 (by decide) (by omega) rfl (fun c7 => ?_) (fun c7 => ?_)
    · refine g_iconst (n := 35) X dX11_person_34 rfl ?_
      exact hq _ _ _ _ dX11_person_35 ⟨by omega, I, C, gFr.rf, Or.inl ⟨by omega, rfl, fun p h0 h1 => rfl, fun p h0 h1 => rfl, fun p h0 h1 => rfl⟩⟩
    · refine g_iload (n := 22) X 0 dX11_person_20 rfl rfl ?_
      refine g_if_eq (n := 25) (tgt := 36) X dX11_person_22 (by decide) (by omega) rfl (fun c8 => ?_) (fun c8 => by exfalso; omega)
      refine g_iload_n (n := 37) X 2 dX11_person_36 rfl rfl rfl ?_
      refine g_iconst (n := 38) X dX11_person_37 rfl ?_
      refine g_iconst (n := 39) X dX11_person_38 rfl ?_
      refine g_callSi (n := 42) (As := [gJ a, gJ 0, gJ 1]) (rest := []) (cs1 := 0) (ss1 := 0) X (s_X11_within a (by omega) 0 (by omega) 1 (by omega) hsz I C ) okX11_within kw_3_29 kw_3_30 ⟨rfl, rfl⟩ ⟨Nat.le_of_ble_eq_true rfl, Nat.le_of_ble_eq_true rfl⟩ rfl rfl (Nat.le_of_ble_eq_true rfl) ⟨Nat.le_of_ble_eq_true rfl, Nat.le_of_ble_eq_true rfl⟩ rfl rfl dX11_person_39 rfl (fun v9 M10 P11 => ?_)
      obtain ⟨rfl, rv9, xv9⟩ := P11
      refine g_if_eq (n := 45) (tgt := 73) X dX11_person_42 (by decide) (by omega) rfl (fun c12 => ?_) (fun c12 => ?_)
      · refine g_bipush (n := 75) X dX11_person_73 (by decide +kernel) rfl ?_
        exact hq _ _ _ _ dX11_person_75 ⟨by omega, I, C, gFr.rf, Or.inl ⟨by omega, rfl, fun p h0 h1 => rfl, fun p h0 h1 => rfl, fun p h0 h1 => rfl⟩⟩
      · refine g_iload_n (n := 46) X 3 dX11_person_45 rfl rfl rfl ?_
        refine g_sipush (n := 49) X dX11_person_46 (by decide +kernel) rfl ?_
        refine g_aload_n (n := 50) X 1 dX11_person_49 rfl rfl rfl ?_
        refine gg_11_0 (n := 53) (z := 1) X (by decide) (gsz hsz (by decide)) lay_0 kw_2_231 dX11_person_50 rfl (rf_0_0 I (gsz hsz (by decide))) (by decide) ?_
        refine gg_9_15 (n := 56) (z := v2) X (by decide) (gsz hsz (by decide)) lay_1 kw_2_139 dX11_person_53 rfl hv2 ?_
        refine g_callSi (n := 59) (As := [gJ b, gJ (-3000), gJ v2]) (rest := []) (cs1 := 0) (ss1 := 0) X (s_X11_within b (by omega) (-3000) (by omega) v2 (by omega) hsz I C ) okX11_within kw_3_29 kw_3_30 ⟨rfl, rfl⟩ ⟨Nat.le_of_ble_eq_true rfl, Nat.le_of_ble_eq_true rfl⟩ rfl rfl (Nat.le_of_ble_eq_true rfl) ⟨Nat.le_of_ble_eq_true rfl, Nat.le_of_ble_eq_true rfl⟩ rfl rfl dX11_person_56 rfl (fun v13 M14 P15 => ?_)
        obtain ⟨rfl, rv13, xv13⟩ := P15
        refine g_if_eq (n := 62) (tgt := 73) X dX11_person_59 (by decide) (by omega) rfl (fun c16 => ?_) (fun c16 => ?_)
        · refine g_bipush (n := 75) X dX11_person_73 (by decide +kernel) rfl ?_
          exact hq _ _ _ _ dX11_person_75 ⟨by omega, I, C, gFr.rf, Or.inl ⟨by omega, rfl, fun p h0 h1 => rfl, fun p h0 h1 => rfl, fun p h0 h1 => rfl⟩⟩
        · refine g_iload (n := 64) X 6 dX11_person_62 rfl rfl ?_
          refine g_iconst (n := 65) X dX11_person_64 rfl ?_
          refine g_bipush (n := 67) X dX11_person_65 (by decide +kernel) rfl ?_
          refine g_callSi (n := 70) (As := [gJ f, gJ 0, gJ 9]) (rest := []) (cs1 := 0) (ss1 := 0) X (s_X11_within f (by omega) 0 (by omega) 9 (by omega) hsz I C ) okX11_within kw_3_29 kw_3_30 ⟨rfl, rfl⟩ ⟨Nat.le_of_ble_eq_true rfl, Nat.le_of_ble_eq_true rfl⟩ rfl rfl (Nat.le_of_ble_eq_true rfl) ⟨Nat.le_of_ble_eq_true rfl, Nat.le_of_ble_eq_true rfl⟩ rfl rfl dX11_person_67 rfl (fun v17 M18 P19 => ?_)
          obtain ⟨rfl, rv17, xv17⟩ := P19
          refine g_if_ne (n := 73) (tgt := 76) X dX11_person_70 (by decide) (by omega) rfl (fun c20 => ?_) (fun c20 => ?_)
          · refine g_iload (n := 78) X 0 dX11_person_76 rfl rfl ?_
            refine g_if_eq (n := 81) (tgt := 117) X dX11_person_78 (by decide) (by omega) rfl (fun c21 => ?_) (fun c21 => by exfalso; omega)
            refine g_aload_n (n := 118) X 1 dX11_person_117 rfl rfl rfl ?_
            refine gg_11_0 (n := 121) (z := 1) X (by decide) (gsz hsz (by decide)) lay_0 kw_2_231 dX11_person_118 rfl (rf_0_0 I (gsz hsz (by decide))) (by decide) ?_
            refine gg_9_10 (n := 124) (z := v1) X (by decide) (gsz hsz (by decide)) lay_1 kw_2_127 dX11_person_121 rfl hv1 ?_
            refine g_bipush (n := 126) X dX11_person_124 (by decide +kernel) rfl ?_
            refine g_icmp_lt (n := 129) (tgt := 132) X dX11_person_126 (by decide) (by omega) (by omega) rfl (fun c22 => ?_) (fun c22 => ?_)
            · refine g_aload_n (n := 133) X 1 dX11_person_132 rfl rfl rfl ?_
              refine gg_11_0 (n := 136) (z := 1) X (by decide) (gsz hsz (by decide)) lay_0 kw_2_231 dX11_person_133 rfl (rf_0_0 I (gsz hsz (by decide))) (by decide) ?_
              refine gg_9_1 (n := 139) (z := 5) X (by decide) (gsz hsz (by decide)) lay_1 kw_2_108 dX11_person_136 rfl (rf_1_1 I (gsz hsz (by decide))) (by decide) ?_
              refine g_aload_n (n := 140) X 1 dX11_person_139 rfl rfl rfl ?_
              refine gg_11_0 (n := 143) (z := 1) X (by decide) (gsz hsz (by decide)) lay_0 kw_2_231 dX11_person_140 rfl (rf_0_0 I (gsz hsz (by decide))) (by decide) ?_
              refine gg_9_10 (n := 146) (z := v1) X (by decide) (gsz hsz (by decide)) lay_1 kw_2_127 dX11_person_143 rfl hv1 ?_
              obtain ⟨o23, ho23, ro23⟩ : ∃ o : Int, o = 31 + v1 ∧ (31 ≤ o ∧ o < 47) := ⟨_, rfl, by omega⟩
              refine g_aald6 (n := 147) (t := o23) X (by decide) (gsz hsz (by decide)) lay_5 (by omega) (by omega) (by decide) (gA5 I hsz (by omega) (by omega) (by omega)) (by omega) dX11_person_146 rfl ?_
              refine g_iload_n (n := 148) X 2 dX11_person_147 rfl rfl rfl ?_
              refine g_iload_n (n := 149) X 3 dX11_person_148 rfl rfl rfl ?_
              refine g_iload_n (n := 150) X 4 dX11_person_149 rfl rfl rfl ?_
              refine g_iload (n := 152) X 5 dX11_person_150 rfl rfl ?_
              refine g_iload (n := 154) X 6 dX11_person_152 rfl rfl ?_
              refine g_callVv (n := 157) (As := [gJ a, gJ b, gJ c, gJ d, gJ f]) (rest := []) (cs1 := 0) (ss1 := 0) X (s_X6_begin o23 ro23 a (by omega) b (by omega) c (by omega) d (by omega) f (by omega) hsz I C ) okX6_begin kw_3_60 ⟨kw_3_61, kw_3_62⟩ ⟨rfl, rfl⟩ ⟨Nat.le_of_ble_eq_true rfl, Nat.le_of_ble_eq_true rfl⟩ rfl (Po0 ro23) (Posz hsz ro23) (lay2_P ro23) rfl rfl (Nat.le_of_ble_eq_true rfl) ⟨Nat.le_of_ble_eq_true rfl, Nat.le_of_ble_eq_true rfl⟩ rfl rfl dX11_person_154 rfl (fun M25 P26 => ?_)
              obtain ⟨M27, e28, M29, e30, M31, e32, M33, e34, M35, e36, M37, e38, M39, e40, M41, e42, M43, e44, M45, e46, M47, e48, M49, e50, rfl⟩ := P26
              have IM27 : gI sz M27 := gI.set I (rP_0 ro23).1 (by omega) e28
              have CM27 : gC sz M27 := gC.set C (rP_0 ro23).2.1 e28
              have IM29 : gI sz M29 := gI.set IM27 (rP_1 ro23).1 (by omega) e30
              have CM29 : gC sz M29 := gC.set CM27 (rP_1 ro23).2.1 e30
              have IM31 : gI sz M31 := gI.set IM29 (rP_2 ro23).1 (by omega) e32
              have CM31 : gC sz M31 := gC.set CM29 (rP_2 ro23).2.1 e32
              have IM33 : gI sz M33 := gI.set IM31 (rP_3 ro23).1 (by omega) e34
              have CM33 : gC sz M33 := gC.set CM31 (rP_3 ro23).2.1 e34
              have IM35 : gI sz M35 := gI.set IM33 (rP_4 ro23).1 (by omega) e36
              have CM35 : gC sz M35 := gC.set CM33 (rP_4 ro23).2.1 e36
              have IM37 : gI sz M37 := gI.set IM35 (rP_6 ro23).1 (by omega) e38
              have CM37 : gC sz M37 := gC.set CM35 (rP_6 ro23).2.1 e38
              have IM39 : gI sz M39 := gI.set IM37 (rP_7 ro23).1 (by omega) e40
              have CM39 : gC sz M39 := gC.set CM37 (rP_7 ro23).2.1 e40
              have IM41 : gI sz M41 := gI.set IM39 (rP_11 ro23).1 (by omega) e42
              have CM41 : gC sz M41 := gC.set CM39 (rP_11 ro23).2.1 e42
              have IM43 : gI sz M43 := gI.set IM41 (rP_5 ro23).1 (by omega) e44
              have CM43 : gC sz M43 := gC.at CM41 (by omega) (by omega) e44
              have IM45 : gI sz M45 := gI.set IM43 (rP_8 ro23).1 (by omega) e46
              have IM47 : gI sz M47 := gI.set IM45 (rP_9 ro23).1 (by omega) e48
              have IM49 : gI sz M49 := gI.set IM47 (rP_10 ro23).1 (by omega) e50
              refine g_aload_n (n := 158) X 1 dX11_person_157 rfl rfl rfl ?_
              refine gg_11_0 (n := 161) (z := 1) X (by decide) (gsz hsz (by decide)) lay_0 kw_2_231 dX11_person_158 rfl (rf_0_0 IM49 (gsz hsz (by decide))) (by decide) ?_
              refine g_dup (n := 162) X dX11_person_161 rfl rfl ?_
              refine gg_9_10 (n := 165) (z := v1) X (by decide) (gsz hsz (by decide)) lay_1 kw_2_127 dX11_person_162 rfl ((congrFun (congrFun e50 _) _).trans ((gset_ne (by omega)).trans ((congrFun (congrFun e48 _) _).trans ((gset_ne (by omega)).trans ((congrFun (congrFun e46 _) _).trans ((gset_ne (by omega)).trans ((congrFun (congrFun e44 _) _).trans ((gset_ne (by omega)).trans ((congrFun (congrFun e42 _) _).trans ((gset_ne (by omega)).trans ((congrFun (congrFun e40 _) _).trans ((gset_ne (by omega)).trans ((congrFun (congrFun e38 _) _).trans ((gset_ne (by omega)).trans ((congrFun (congrFun e36 _) _).trans ((gset_ne (by omega)).trans ((congrFun (congrFun e34 _) _).trans ((gset_ne (by omega)).trans ((congrFun (congrFun e32 _) _).trans ((gset_ne (by omega)).trans ((congrFun (congrFun e30 _) _).trans ((gset_ne (by omega)).trans ((congrFun (congrFun e28 _) _).trans ((gset_ne (by omega)).trans hv1)))))))))))))))))))))))) ?_
              refine g_dup_x1 (n := 166) X dX11_person_165 rfl rfl rfl ?_
              refine g_iconst (n := 167) X dX11_person_166 rfl ?_
              refine g_iadd (n := 168) (z := v1 + 1) X dX11_person_167 (by omega) rfl ?_
              refine gp_9_10 (n := 171) X (by decide) (gsz hsz (by decide)) lay_1 kw_2_127 dX11_person_168 rfl ?_
              have CM49 : gC sz M49 := gC.pers CM43 ro23 (fun a b h => ((congrFun (congrFun e50 a) b).trans ((gset_ne (fun q => h q.1)).trans ((congrFun (congrFun e48 a) b).trans ((gset_ne (fun q => h q.1)).trans ((congrFun (congrFun e46 a) b).trans ((gset_ne (fun q => h q.1)).trans rfl))))))) (by have q5 : M49 o23 5 = c := ((congrFun (congrFun e50 _) _).trans ((gset_ne (by omega)).trans ((congrFun (congrFun e48 _) _).trans ((gset_ne (by omega)).trans ((congrFun (congrFun e46 _) _).trans ((gset_ne (by omega)).trans ((congrFun (congrFun e44 _) _).trans (gset_eq _ _ _ _)))))))); have q8 : M49 o23 8 = (-1) := ((congrFun (congrFun e50 _) _).trans ((gset_ne (by omega)).trans ((congrFun (congrFun e48 _) _).trans ((gset_ne (by omega)).trans ((congrFun (congrFun e46 _) _).trans (gset_eq _ _ _ _)))))); have q10 : M49 o23 10 = (-1) := ((congrFun (congrFun e50 _) _).trans (gset_eq _ _ _ _)); omega)
              refine G.nm (fun M51 e52 => ?_)
              have IM51 : gI sz M51 := gI.set IM49 rc_1_10.1 (by omega) e52
              have CM51 : gC sz M51 := gC.set CM49 rc_1_10.2.1 e52
              exact hq _ _ _ _ dX11_person_171 ⟨by omega, IM51, CM51, (gFr.s (gFr.s (gFr.s (gFr.s (gFr.s (gFr.s (gFr.s (gFr.s (gFr.s (gFr.s (gFr.s (gFr.s (gFr.s gFr.rf e28 (rP_0 ro23).2.2 rfl) e30 (rP_1 ro23).2.2 rfl) e32 (rP_2 ro23).2.2 rfl) e34 (rP_3 ro23).2.2 rfl) e36 (rP_4 ro23).2.2 rfl) e38 (rP_6 ro23).2.2 rfl) e40 (rP_7 ro23).2.2 rfl) e42 (rP_11 ro23).2.2 rfl) e44 (rP_5 ro23).2.2 rfl) e46 (rP_8 ro23).2.2 rfl) e48 (rP_9 ro23).2.2 rfl) e50 (rP_10 ro23).2.2 rfl) e52 rc_1_10.2.2 rfl), Or.inr ⟨⟨by omega, by omega, by omega, by omega⟩, (by have q := ((congrFun (congrFun e52 _) _).trans (gset_eq _ _ _ _)); omega), (fun p h0 h1 hp => ((congrFun (congrFun e52 _) _).trans ((gset_ne (by omega)).trans ((congrFun (congrFun e50 _) _).trans ((gset_ne (by omega)).trans ((congrFun (congrFun e48 _) _).trans ((gset_ne (by omega)).trans ((congrFun (congrFun e46 _) _).trans ((gset_ne (by omega)).trans ((congrFun (congrFun e44 _) _).trans ((gset_ne (by omega)).trans ((congrFun (congrFun e42 _) _).trans ((gset_ne (by omega)).trans ((congrFun (congrFun e40 _) _).trans ((gset_ne (by omega)).trans ((congrFun (congrFun e38 _) _).trans ((gset_ne (by omega)).trans ((congrFun (congrFun e36 _) _).trans ((gset_ne (by omega)).trans ((congrFun (congrFun e34 _) _).trans ((gset_ne (by omega)).trans ((congrFun (congrFun e32 _) _).trans ((gset_ne (by omega)).trans ((congrFun (congrFun e30 _) _).trans ((gset_ne (by omega)).trans ((congrFun (congrFun e28 _) _).trans ((gset_ne (by omega)).trans rfl))))))))))))))))))))))))))), (fun p h0 h1 hp => ((congrFun (congrFun e52 _) _).trans ((gset_ne (by omega)).trans ((congrFun (congrFun e50 _) _).trans ((gset_ne (by omega)).trans ((congrFun (congrFun e48 _) _).trans ((gset_ne (by omega)).trans ((congrFun (congrFun e46 _) _).trans ((gset_ne (by omega)).trans ((congrFun (congrFun e44 _) _).trans ((gset_ne (by omega)).trans ((congrFun (congrFun e42 _) _).trans ((gset_ne (by omega)).trans ((congrFun (congrFun e40 _) _).trans ((gset_ne (by omega)).trans ((congrFun (congrFun e38 _) _).trans ((gset_ne (by omega)).trans ((congrFun (congrFun e36 _) _).trans ((gset_ne (by omega)).trans ((congrFun (congrFun e34 _) _).trans ((gset_ne (by omega)).trans ((congrFun (congrFun e32 _) _).trans ((gset_ne (by omega)).trans ((congrFun (congrFun e30 _) _).trans ((gset_ne (by omega)).trans ((congrFun (congrFun e28 _) _).trans ((gset_ne (by omega)).trans rfl))))))))))))))))))))))))))), (fun p h0 h1 hp => ((congrFun (congrFun e52 _) _).trans ((gset_ne (by omega)).trans ((congrFun (congrFun e50 _) _).trans ((gset_ne (by omega)).trans ((congrFun (congrFun e48 _) _).trans ((gset_ne (by omega)).trans ((congrFun (congrFun e46 _) _).trans ((gset_ne (by omega)).trans ((congrFun (congrFun e44 _) _).trans ((gset_ne (by omega)).trans ((congrFun (congrFun e42 _) _).trans ((gset_ne (by omega)).trans ((congrFun (congrFun e40 _) _).trans ((gset_ne (by omega)).trans ((congrFun (congrFun e38 _) _).trans ((gset_ne (by omega)).trans ((congrFun (congrFun e36 _) _).trans ((gset_ne (by omega)).trans ((congrFun (congrFun e34 _) _).trans ((gset_ne (by omega)).trans ((congrFun (congrFun e32 _) _).trans ((gset_ne (by omega)).trans ((congrFun (congrFun e30 _) _).trans ((gset_ne (by omega)).trans ((congrFun (congrFun e28 _) _).trans ((gset_ne (by omega)).trans rfl))))))))))))))))))))))))))), (by rw [hv1, ← ho23]; exact ((congrFun (congrFun e52 _) _).trans ((gset_ne (by omega)).trans ((congrFun (congrFun e50 _) _).trans ((gset_ne (by omega)).trans ((congrFun (congrFun e48 _) _).trans ((gset_ne (by omega)).trans ((congrFun (congrFun e46 _) _).trans ((gset_ne (by omega)).trans ((congrFun (congrFun e44 _) _).trans ((gset_ne (by omega)).trans ((congrFun (congrFun e42 _) _).trans ((gset_ne (by omega)).trans ((congrFun (congrFun e40 _) _).trans ((gset_ne (by omega)).trans ((congrFun (congrFun e38 _) _).trans ((gset_ne (by omega)).trans ((congrFun (congrFun e36 _) _).trans ((gset_ne (by omega)).trans ((congrFun (congrFun e34 _) _).trans ((gset_ne (by omega)).trans ((congrFun (congrFun e32 _) _).trans ((gset_ne (by omega)).trans ((congrFun (congrFun e30 _) _).trans ((gset_ne (by omega)).trans ((congrFun (congrFun e28 _) _).trans (gset_eq _ _ _ _))))))))))))))))))))))))))), (by rw [hv1, ← ho23]; exact ((congrFun (congrFun e52 _) _).trans ((gset_ne (by omega)).trans ((congrFun (congrFun e50 _) _).trans ((gset_ne (by omega)).trans ((congrFun (congrFun e48 _) _).trans ((gset_ne (by omega)).trans ((congrFun (congrFun e46 _) _).trans ((gset_ne (by omega)).trans ((congrFun (congrFun e44 _) _).trans ((gset_ne (by omega)).trans ((congrFun (congrFun e42 _) _).trans ((gset_ne (by omega)).trans ((congrFun (congrFun e40 _) _).trans ((gset_ne (by omega)).trans ((congrFun (congrFun e38 _) _).trans ((gset_ne (by omega)).trans ((congrFun (congrFun e36 _) _).trans ((gset_ne (by omega)).trans ((congrFun (congrFun e34 _) _).trans ((gset_ne (by omega)).trans ((congrFun (congrFun e32 _) _).trans ((gset_ne (by omega)).trans ((congrFun (congrFun e30 _) _).trans (gset_eq _ _ _ _))))))))))))))))))))))))), (by rw [hv1, ← ho23]; exact ((congrFun (congrFun e52 _) _).trans ((gset_ne (by omega)).trans ((congrFun (congrFun e50 _) _).trans ((gset_ne (by omega)).trans ((congrFun (congrFun e48 _) _).trans ((gset_ne (by omega)).trans ((congrFun (congrFun e46 _) _).trans ((gset_ne (by omega)).trans ((congrFun (congrFun e44 _) _).trans ((gset_ne (by omega)).trans ((congrFun (congrFun e42 _) _).trans (gset_eq _ _ _ _)))))))))))))⟩⟩
            · refine g_bipush (n := 131) X dX11_person_129 (by decide +kernel) rfl ?_
              exact hq _ _ _ _ dX11_person_131 ⟨by omega, I, C, gFr.rf, Or.inl ⟨by omega, rfl, fun p h0 h1 => rfl, fun p h0 h1 => rfl, fun p h0 h1 => rfl⟩⟩
          · refine g_bipush (n := 75) X dX11_person_73 (by decide +kernel) rfl ?_
            exact hq _ _ _ _ dX11_person_75 ⟨by omega, I, C, gFr.rf, Or.inl ⟨by omega, rfl, fun p h0 h1 => rfl, fun p h0 h1 => rfl, fun p h0 h1 => rfl⟩⟩
  · refine g_iconst (n := 7) X dX11_person_6 rfl ?_
    refine g_goto (tgt := 11) X dX11_person_7 (by decide) ?_
    refine g_istore (n := 13) (L' := [(6, gJ 1), (0, gA n0 0), (1, gJ a), (2, gJ b), (3, gJ c), (4, gJ d), (5, gJ f)]) X dX11_person_11 (by decide) rfl rfl ?_
    refine g_iload_n (n := 14) X 4 dX11_person_13 rfl rfl rfl ?_
    refine g_callSi (n := 17) (As := [gJ c]) (rest := []) (cs1 := 0) (ss1 := 0) X (s_X11_isParish c (by omega) hsz I C ) okX11_isParish kw_3_26 kw_3_27 ⟨rfl, rfl⟩ ⟨Nat.le_of_ble_eq_true rfl, Nat.le_of_ble_eq_true rfl⟩ rfl rfl (Nat.le_of_ble_eq_true rfl) ⟨Nat.le_of_ble_eq_true rfl, Nat.le_of_ble_eq_true rfl⟩ rfl rfl dX11_person_14 rfl (fun v53 M54 P55 => ?_)
    obtain ⟨rfl, rv53, xv53⟩ := P55
    refine g_if_eq (n := 20) (tgt := 34) X dX11_person_17 (by decide) (by omega) rfl (fun c56 => ?_) (fun c56 => ?_)
    · refine g_iconst (n := 35) X dX11_person_34 rfl ?_
      exact hq _ _ _ _ dX11_person_35 ⟨by omega, I, C, gFr.rf, Or.inl ⟨by omega, rfl, fun p h0 h1 => rfl, fun p h0 h1 => rfl, fun p h0 h1 => rfl⟩⟩
    · refine g_iload (n := 22) X 0 dX11_person_20 rfl rfl ?_
      refine g_if_eq (n := 25) (tgt := 36) X dX11_person_22 (by decide) (by omega) rfl (fun c57 => by exfalso; omega) (fun c57 => ?_)
      refine g_aload_n (n := 26) X 1 dX11_person_25 rfl rfl rfl ?_
      refine g_iload (n := 28) X 5 dX11_person_26 rfl rfl ?_
      refine g_callVi (n := 31) (As := [gJ d]) (rest := []) (cs1 := 0) (ss1 := 0) X (s_X11_isPerson d (by omega) hsz I C ) okX11_isPerson kw_3_56 ⟨kw_3_58, kw_0_0⟩ ⟨rfl, rfl⟩ ⟨Nat.le_of_ble_eq_true rfl, Nat.le_of_ble_eq_true rfl⟩ rfl (by decide) (gsz hsz (by decide)) lay_0 rfl rfl (Nat.le_of_ble_eq_true rfl) ⟨Nat.le_of_ble_eq_true rfl, Nat.le_of_ble_eq_true rfl⟩ rfl rfl dX11_person_28 rfl (fun v58 M59 P60 => ?_)
      obtain ⟨rfl, rv58, xv58⟩ := P60
      refine g_if_ne (n := 34) (tgt := 36) X dX11_person_31 (by decide) (by omega) rfl (fun c61 => ?_) (fun c61 => ?_)
      · refine g_iload_n (n := 37) X 2 dX11_person_36 rfl rfl rfl ?_
        refine g_iconst (n := 38) X dX11_person_37 rfl ?_
        refine g_iconst (n := 39) X dX11_person_38 rfl ?_
        refine g_callSi (n := 42) (As := [gJ a, gJ 0, gJ 1]) (rest := []) (cs1 := 0) (ss1 := 0) X (s_X11_within a (by omega) 0 (by omega) 1 (by omega) hsz I C ) okX11_within kw_3_29 kw_3_30 ⟨rfl, rfl⟩ ⟨Nat.le_of_ble_eq_true rfl, Nat.le_of_ble_eq_true rfl⟩ rfl rfl (Nat.le_of_ble_eq_true rfl) ⟨Nat.le_of_ble_eq_true rfl, Nat.le_of_ble_eq_true rfl⟩ rfl rfl dX11_person_39 rfl (fun v62 M63 P64 => ?_)
        obtain ⟨rfl, rv62, xv62⟩ := P64
        refine g_if_eq (n := 45) (tgt := 73) X dX11_person_42 (by decide) (by omega) rfl (fun c65 => ?_) (fun c65 => ?_)
        · refine g_bipush (n := 75) X dX11_person_73 (by decide +kernel) rfl ?_
          exact hq _ _ _ _ dX11_person_75 ⟨by omega, I, C, gFr.rf, Or.inl ⟨by omega, rfl, fun p h0 h1 => rfl, fun p h0 h1 => rfl, fun p h0 h1 => rfl⟩⟩
        · refine g_iload_n (n := 46) X 3 dX11_person_45 rfl rfl rfl ?_
          refine g_sipush (n := 49) X dX11_person_46 (by decide +kernel) rfl ?_
          refine g_aload_n (n := 50) X 1 dX11_person_49 rfl rfl rfl ?_
          refine gg_11_0 (n := 53) (z := 1) X (by decide) (gsz hsz (by decide)) lay_0 kw_2_231 dX11_person_50 rfl (rf_0_0 I (gsz hsz (by decide))) (by decide) ?_
          refine gg_9_15 (n := 56) (z := v2) X (by decide) (gsz hsz (by decide)) lay_1 kw_2_139 dX11_person_53 rfl hv2 ?_
          refine g_callSi (n := 59) (As := [gJ b, gJ (-3000), gJ v2]) (rest := []) (cs1 := 0) (ss1 := 0) X (s_X11_within b (by omega) (-3000) (by omega) v2 (by omega) hsz I C ) okX11_within kw_3_29 kw_3_30 ⟨rfl, rfl⟩ ⟨Nat.le_of_ble_eq_true rfl, Nat.le_of_ble_eq_true rfl⟩ rfl rfl (Nat.le_of_ble_eq_true rfl) ⟨Nat.le_of_ble_eq_true rfl, Nat.le_of_ble_eq_true rfl⟩ rfl rfl dX11_person_56 rfl (fun v66 M67 P68 => ?_)
          obtain ⟨rfl, rv66, xv66⟩ := P68
          refine g_if_eq (n := 62) (tgt := 73) X dX11_person_59 (by decide) (by omega) rfl (fun c69 => ?_) (fun c69 => ?_)
          · refine g_bipush (n := 75) X dX11_person_73 (by decide +kernel) rfl ?_
            exact hq _ _ _ _ dX11_person_75 ⟨by omega, I, C, gFr.rf, Or.inl ⟨by omega, rfl, fun p h0 h1 => rfl, fun p h0 h1 => rfl, fun p h0 h1 => rfl⟩⟩
          · refine g_iload (n := 64) X 6 dX11_person_62 rfl rfl ?_
            refine g_iconst (n := 65) X dX11_person_64 rfl ?_
            refine g_bipush (n := 67) X dX11_person_65 (by decide +kernel) rfl ?_
            refine g_callSi (n := 70) (As := [gJ f, gJ 0, gJ 9]) (rest := []) (cs1 := 0) (ss1 := 0) X (s_X11_within f (by omega) 0 (by omega) 9 (by omega) hsz I C ) okX11_within kw_3_29 kw_3_30 ⟨rfl, rfl⟩ ⟨Nat.le_of_ble_eq_true rfl, Nat.le_of_ble_eq_true rfl⟩ rfl rfl (Nat.le_of_ble_eq_true rfl) ⟨Nat.le_of_ble_eq_true rfl, Nat.le_of_ble_eq_true rfl⟩ rfl rfl dX11_person_67 rfl (fun v70 M71 P72 => ?_)
            obtain ⟨rfl, rv70, xv70⟩ := P72
            refine g_if_ne (n := 73) (tgt := 76) X dX11_person_70 (by decide) (by omega) rfl (fun c73 => ?_) (fun c73 => ?_)
            · refine g_iload (n := 78) X 0 dX11_person_76 rfl rfl ?_
              refine g_if_eq (n := 81) (tgt := 117) X dX11_person_78 (by decide) (by omega) rfl (fun c74 => by exfalso; omega) (fun c74 => ?_)
              refine g_aload_n (n := 82) X 1 dX11_person_81 rfl rfl rfl ?_
              refine gg_11_0 (n := 85) (z := 1) X (by decide) (gsz hsz (by decide)) lay_0 kw_2_231 dX11_person_82 rfl (rf_0_0 I (gsz hsz (by decide))) (by decide) ?_
              refine gg_9_1 (n := 88) (z := 5) X (by decide) (gsz hsz (by decide)) lay_1 kw_2_108 dX11_person_85 rfl (rf_1_1 I (gsz hsz (by decide))) (by decide) ?_
              refine g_iload (n := 90) X 5 dX11_person_88 rfl rfl ?_
              obtain ⟨o75, ho75, ro75⟩ : ∃ o : Int, o = 31 + d ∧ (31 ≤ o ∧ o < 47) := ⟨_, rfl, by omega⟩
              refine g_aald6 (n := 91) (t := o75) X (by decide) (gsz hsz (by decide)) lay_5 (by omega) (by omega) (by decide) (gA5 I hsz (by omega) (by omega) (by omega)) (by omega) dX11_person_90 rfl ?_
              obtain ⟨v76, hv76, rv76⟩ := gRd I (Po0 ro75) (Posz hsz ro75) (rP_0 ro75).1
              refine gg_6_0 (n := 94) (z := v76) X (Po0 ro75) (Posz hsz ro75) (lay2_P ro75) kw_1_176 dX11_person_91 rfl hv76 ?_
              refine g_if_ne (n := 97) (tgt := 114) X dX11_person_94 (by decide) (by omega) rfl (fun c77 => ?_) (fun c77 => ?_)
              · refine g_bipush (n := 116) X dX11_person_114 (by decide +kernel) rfl ?_
                have qf0 : M (31 + d) 0 = v76 := by rw [← ho75]; exact hv76
                exact hq _ _ _ _ dX11_person_116 ⟨by omega, I, C, gFr.rf, Or.inl ⟨by omega, rfl, fun p h0 h1 => rfl, fun p h0 h1 => rfl, fun p h0 h1 => rfl⟩⟩
              · refine g_aload_n (n := 98) X 1 dX11_person_97 rfl rfl rfl ?_
                refine gg_11_0 (n := 101) (z := 1) X (by decide) (gsz hsz (by decide)) lay_0 kw_2_231 dX11_person_98 rfl (rf_0_0 I (gsz hsz (by decide))) (by decide) ?_
                refine gg_9_1 (n := 104) (z := 5) X (by decide) (gsz hsz (by decide)) lay_1 kw_2_108 dX11_person_101 rfl (rf_1_1 I (gsz hsz (by decide))) (by decide) ?_
                refine g_iload (n := 106) X 5 dX11_person_104 rfl rfl ?_
                refine g_aald6 (n := 107) (t := o75) X (by decide) (gsz hsz (by decide)) lay_5 (by omega) (by omega) (by decide) (gA5 I hsz (by omega) (by omega) (by omega)) (by omega) dX11_person_106 rfl ?_
                obtain ⟨v78, hv78, rv78⟩ := gRd I (Po0 ro75) (Posz hsz ro75) (rP_1 ro75).1
                refine gg_6_1 (n := 110) (z := v78) X (Po0 ro75) (Posz hsz ro75) (lay2_P ro75) kw_1_180 dX11_person_107 rfl hv78 ?_
                refine g_iload_n (n := 111) X 3 dX11_person_110 rfl rfl rfl ?_
                refine g_icmp_lt (n := 114) (tgt := 117) X dX11_person_111 (by decide) (by omega) (by omega) rfl (fun c79 => ?_) (fun c79 => ?_)
                · refine g_aload_n (n := 118) X 1 dX11_person_117 rfl rfl rfl ?_
                  refine gg_11_0 (n := 121) (z := 1) X (by decide) (gsz hsz (by decide)) lay_0 kw_2_231 dX11_person_118 rfl (rf_0_0 I (gsz hsz (by decide))) (by decide) ?_
                  refine gg_9_10 (n := 124) (z := v1) X (by decide) (gsz hsz (by decide)) lay_1 kw_2_127 dX11_person_121 rfl hv1 ?_
                  refine g_bipush (n := 126) X dX11_person_124 (by decide +kernel) rfl ?_
                  refine g_icmp_lt (n := 129) (tgt := 132) X dX11_person_126 (by decide) (by omega) (by omega) rfl (fun c80 => ?_) (fun c80 => ?_)
                  · refine g_aload_n (n := 133) X 1 dX11_person_132 rfl rfl rfl ?_
                    refine gg_11_0 (n := 136) (z := 1) X (by decide) (gsz hsz (by decide)) lay_0 kw_2_231 dX11_person_133 rfl (rf_0_0 I (gsz hsz (by decide))) (by decide) ?_
                    refine gg_9_1 (n := 139) (z := 5) X (by decide) (gsz hsz (by decide)) lay_1 kw_2_108 dX11_person_136 rfl (rf_1_1 I (gsz hsz (by decide))) (by decide) ?_
                    refine g_aload_n (n := 140) X 1 dX11_person_139 rfl rfl rfl ?_
                    refine gg_11_0 (n := 143) (z := 1) X (by decide) (gsz hsz (by decide)) lay_0 kw_2_231 dX11_person_140 rfl (rf_0_0 I (gsz hsz (by decide))) (by decide) ?_
                    refine gg_9_10 (n := 146) (z := v1) X (by decide) (gsz hsz (by decide)) lay_1 kw_2_127 dX11_person_143 rfl hv1 ?_
                    obtain ⟨o81, ho81, ro81⟩ : ∃ o : Int, o = 31 + v1 ∧ (31 ≤ o ∧ o < 47) := ⟨_, rfl, by omega⟩
                    refine g_aald6 (n := 147) (t := o81) X (by decide) (gsz hsz (by decide)) lay_5 (by omega) (by omega) (by decide) (gA5 I hsz (by omega) (by omega) (by omega)) (by omega) dX11_person_146 rfl ?_
                    refine g_iload_n (n := 148) X 2 dX11_person_147 rfl rfl rfl ?_
                    refine g_iload_n (n := 149) X 3 dX11_person_148 rfl rfl rfl ?_
                    refine g_iload_n (n := 150) X 4 dX11_person_149 rfl rfl rfl ?_
                    refine g_iload (n := 152) X 5 dX11_person_150 rfl rfl ?_
                    refine g_iload (n := 154) X 6 dX11_person_152 rfl rfl ?_
                    refine g_callVv (n := 157) (As := [gJ a, gJ b, gJ c, gJ d, gJ f]) (rest := []) (cs1 := 0) (ss1 := 0) X (s_X6_begin o81 ro81 a (by omega) b (by omega) c (by omega) d (by omega) f (by omega) hsz I C ) okX6_begin kw_3_60 ⟨kw_3_61, kw_3_62⟩ ⟨rfl, rfl⟩ ⟨Nat.le_of_ble_eq_true rfl, Nat.le_of_ble_eq_true rfl⟩ rfl (Po0 ro81) (Posz hsz ro81) (lay2_P ro81) rfl rfl (Nat.le_of_ble_eq_true rfl) ⟨Nat.le_of_ble_eq_true rfl, Nat.le_of_ble_eq_true rfl⟩ rfl rfl dX11_person_154 rfl (fun M83 P84 => ?_)
                    obtain ⟨M85, e86, M87, e88, M89, e90, M91, e92, M93, e94, M95, e96, M97, e98, M99, e100, M101, e102, M103, e104, M105, e106, M107, e108, rfl⟩ := P84
                    have IM85 : gI sz M85 := gI.set I (rP_0 ro81).1 (by omega) e86
                    have CM85 : gC sz M85 := gC.set C (rP_0 ro81).2.1 e86
                    have IM87 : gI sz M87 := gI.set IM85 (rP_1 ro81).1 (by omega) e88
                    have CM87 : gC sz M87 := gC.set CM85 (rP_1 ro81).2.1 e88
                    have IM89 : gI sz M89 := gI.set IM87 (rP_2 ro81).1 (by omega) e90
                    have CM89 : gC sz M89 := gC.set CM87 (rP_2 ro81).2.1 e90
                    have IM91 : gI sz M91 := gI.set IM89 (rP_3 ro81).1 (by omega) e92
                    have CM91 : gC sz M91 := gC.set CM89 (rP_3 ro81).2.1 e92
                    have IM93 : gI sz M93 := gI.set IM91 (rP_4 ro81).1 (by omega) e94
                    have CM93 : gC sz M93 := gC.set CM91 (rP_4 ro81).2.1 e94
                    have IM95 : gI sz M95 := gI.set IM93 (rP_6 ro81).1 (by omega) e96
                    have CM95 : gC sz M95 := gC.set CM93 (rP_6 ro81).2.1 e96
                    have IM97 : gI sz M97 := gI.set IM95 (rP_7 ro81).1 (by omega) e98
                    have CM97 : gC sz M97 := gC.set CM95 (rP_7 ro81).2.1 e98
                    have IM99 : gI sz M99 := gI.set IM97 (rP_11 ro81).1 (by omega) e100
                    have CM99 : gC sz M99 := gC.set CM97 (rP_11 ro81).2.1 e100
                    have IM101 : gI sz M101 := gI.set IM99 (rP_5 ro81).1 (by omega) e102
                    have CM101 : gC sz M101 := gC.at CM99 (by omega) (by omega) e102
                    have IM103 : gI sz M103 := gI.set IM101 (rP_8 ro81).1 (by omega) e104
                    have IM105 : gI sz M105 := gI.set IM103 (rP_9 ro81).1 (by omega) e106
                    have IM107 : gI sz M107 := gI.set IM105 (rP_10 ro81).1 (by omega) e108
                    refine g_aload_n (n := 158) X 1 dX11_person_157 rfl rfl rfl ?_
                    refine gg_11_0 (n := 161) (z := 1) X (by decide) (gsz hsz (by decide)) lay_0 kw_2_231 dX11_person_158 rfl (rf_0_0 IM107 (gsz hsz (by decide))) (by decide) ?_
                    refine g_dup (n := 162) X dX11_person_161 rfl rfl ?_
                    refine gg_9_10 (n := 165) (z := v1) X (by decide) (gsz hsz (by decide)) lay_1 kw_2_127 dX11_person_162 rfl ((congrFun (congrFun e108 _) _).trans ((gset_ne (by omega)).trans ((congrFun (congrFun e106 _) _).trans ((gset_ne (by omega)).trans ((congrFun (congrFun e104 _) _).trans ((gset_ne (by omega)).trans ((congrFun (congrFun e102 _) _).trans ((gset_ne (by omega)).trans ((congrFun (congrFun e100 _) _).trans ((gset_ne (by omega)).trans ((congrFun (congrFun e98 _) _).trans ((gset_ne (by omega)).trans ((congrFun (congrFun e96 _) _).trans ((gset_ne (by omega)).trans ((congrFun (congrFun e94 _) _).trans ((gset_ne (by omega)).trans ((congrFun (congrFun e92 _) _).trans ((gset_ne (by omega)).trans ((congrFun (congrFun e90 _) _).trans ((gset_ne (by omega)).trans ((congrFun (congrFun e88 _) _).trans ((gset_ne (by omega)).trans ((congrFun (congrFun e86 _) _).trans ((gset_ne (by omega)).trans hv1)))))))))))))))))))))))) ?_
                    refine g_dup_x1 (n := 166) X dX11_person_165 rfl rfl rfl ?_
                    refine g_iconst (n := 167) X dX11_person_166 rfl ?_
                    refine g_iadd (n := 168) (z := v1 + 1) X dX11_person_167 (by omega) rfl ?_
                    refine gp_9_10 (n := 171) X (by decide) (gsz hsz (by decide)) lay_1 kw_2_127 dX11_person_168 rfl ?_
                    have CM107 : gC sz M107 := gC.pers CM101 ro81 (fun a b h => ((congrFun (congrFun e108 a) b).trans ((gset_ne (fun q => h q.1)).trans ((congrFun (congrFun e106 a) b).trans ((gset_ne (fun q => h q.1)).trans ((congrFun (congrFun e104 a) b).trans ((gset_ne (fun q => h q.1)).trans rfl))))))) (by have q5 : M107 o81 5 = c := ((congrFun (congrFun e108 _) _).trans ((gset_ne (by omega)).trans ((congrFun (congrFun e106 _) _).trans ((gset_ne (by omega)).trans ((congrFun (congrFun e104 _) _).trans ((gset_ne (by omega)).trans ((congrFun (congrFun e102 _) _).trans (gset_eq _ _ _ _)))))))); have q8 : M107 o81 8 = (-1) := ((congrFun (congrFun e108 _) _).trans ((gset_ne (by omega)).trans ((congrFun (congrFun e106 _) _).trans ((gset_ne (by omega)).trans ((congrFun (congrFun e104 _) _).trans (gset_eq _ _ _ _)))))); have q10 : M107 o81 10 = (-1) := ((congrFun (congrFun e108 _) _).trans (gset_eq _ _ _ _)); omega)
                    refine G.nm (fun M109 e110 => ?_)
                    have IM109 : gI sz M109 := gI.set IM107 rc_1_10.1 (by omega) e110
                    have CM109 : gC sz M109 := gC.set CM107 rc_1_10.2.1 e110
                    have qf0 : M (31 + d) 0 = v76 := by rw [← ho75]; exact hv76
                    have qf1 : M (31 + d) 1 = v78 := by rw [← ho75]; exact hv78
                    exact hq _ _ _ _ dX11_person_171 ⟨by omega, IM109, CM109, (gFr.s (gFr.s (gFr.s (gFr.s (gFr.s (gFr.s (gFr.s (gFr.s (gFr.s (gFr.s (gFr.s (gFr.s (gFr.s gFr.rf e86 (rP_0 ro81).2.2 rfl) e88 (rP_1 ro81).2.2 rfl) e90 (rP_2 ro81).2.2 rfl) e92 (rP_3 ro81).2.2 rfl) e94 (rP_4 ro81).2.2 rfl) e96 (rP_6 ro81).2.2 rfl) e98 (rP_7 ro81).2.2 rfl) e100 (rP_11 ro81).2.2 rfl) e102 (rP_5 ro81).2.2 rfl) e104 (rP_8 ro81).2.2 rfl) e106 (rP_9 ro81).2.2 rfl) e108 (rP_10 ro81).2.2 rfl) e110 rc_1_10.2.2 rfl), Or.inr ⟨⟨by omega, by omega, by omega, by omega⟩, (by have q := ((congrFun (congrFun e110 _) _).trans (gset_eq _ _ _ _)); omega), (fun p h0 h1 hp => ((congrFun (congrFun e110 _) _).trans ((gset_ne (by omega)).trans ((congrFun (congrFun e108 _) _).trans ((gset_ne (by omega)).trans ((congrFun (congrFun e106 _) _).trans ((gset_ne (by omega)).trans ((congrFun (congrFun e104 _) _).trans ((gset_ne (by omega)).trans ((congrFun (congrFun e102 _) _).trans ((gset_ne (by omega)).trans ((congrFun (congrFun e100 _) _).trans ((gset_ne (by omega)).trans ((congrFun (congrFun e98 _) _).trans ((gset_ne (by omega)).trans ((congrFun (congrFun e96 _) _).trans ((gset_ne (by omega)).trans ((congrFun (congrFun e94 _) _).trans ((gset_ne (by omega)).trans ((congrFun (congrFun e92 _) _).trans ((gset_ne (by omega)).trans ((congrFun (congrFun e90 _) _).trans ((gset_ne (by omega)).trans ((congrFun (congrFun e88 _) _).trans ((gset_ne (by omega)).trans ((congrFun (congrFun e86 _) _).trans ((gset_ne (by omega)).trans rfl))))))))))))))))))))))))))), (fun p h0 h1 hp => ((congrFun (congrFun e110 _) _).trans ((gset_ne (by omega)).trans ((congrFun (congrFun e108 _) _).trans ((gset_ne (by omega)).trans ((congrFun (congrFun e106 _) _).trans ((gset_ne (by omega)).trans ((congrFun (congrFun e104 _) _).trans ((gset_ne (by omega)).trans ((congrFun (congrFun e102 _) _).trans ((gset_ne (by omega)).trans ((congrFun (congrFun e100 _) _).trans ((gset_ne (by omega)).trans ((congrFun (congrFun e98 _) _).trans ((gset_ne (by omega)).trans ((congrFun (congrFun e96 _) _).trans ((gset_ne (by omega)).trans ((congrFun (congrFun e94 _) _).trans ((gset_ne (by omega)).trans ((congrFun (congrFun e92 _) _).trans ((gset_ne (by omega)).trans ((congrFun (congrFun e90 _) _).trans ((gset_ne (by omega)).trans ((congrFun (congrFun e88 _) _).trans ((gset_ne (by omega)).trans ((congrFun (congrFun e86 _) _).trans ((gset_ne (by omega)).trans rfl))))))))))))))))))))))))))), (fun p h0 h1 hp => ((congrFun (congrFun e110 _) _).trans ((gset_ne (by omega)).trans ((congrFun (congrFun e108 _) _).trans ((gset_ne (by omega)).trans ((congrFun (congrFun e106 _) _).trans ((gset_ne (by omega)).trans ((congrFun (congrFun e104 _) _).trans ((gset_ne (by omega)).trans ((congrFun (congrFun e102 _) _).trans ((gset_ne (by omega)).trans ((congrFun (congrFun e100 _) _).trans ((gset_ne (by omega)).trans ((congrFun (congrFun e98 _) _).trans ((gset_ne (by omega)).trans ((congrFun (congrFun e96 _) _).trans ((gset_ne (by omega)).trans ((congrFun (congrFun e94 _) _).trans ((gset_ne (by omega)).trans ((congrFun (congrFun e92 _) _).trans ((gset_ne (by omega)).trans ((congrFun (congrFun e90 _) _).trans ((gset_ne (by omega)).trans ((congrFun (congrFun e88 _) _).trans ((gset_ne (by omega)).trans ((congrFun (congrFun e86 _) _).trans ((gset_ne (by omega)).trans rfl))))))))))))))))))))))))))), (by rw [hv1, ← ho81]; exact ((congrFun (congrFun e110 _) _).trans ((gset_ne (by omega)).trans ((congrFun (congrFun e108 _) _).trans ((gset_ne (by omega)).trans ((congrFun (congrFun e106 _) _).trans ((gset_ne (by omega)).trans ((congrFun (congrFun e104 _) _).trans ((gset_ne (by omega)).trans ((congrFun (congrFun e102 _) _).trans ((gset_ne (by omega)).trans ((congrFun (congrFun e100 _) _).trans ((gset_ne (by omega)).trans ((congrFun (congrFun e98 _) _).trans ((gset_ne (by omega)).trans ((congrFun (congrFun e96 _) _).trans ((gset_ne (by omega)).trans ((congrFun (congrFun e94 _) _).trans ((gset_ne (by omega)).trans ((congrFun (congrFun e92 _) _).trans ((gset_ne (by omega)).trans ((congrFun (congrFun e90 _) _).trans ((gset_ne (by omega)).trans ((congrFun (congrFun e88 _) _).trans ((gset_ne (by omega)).trans ((congrFun (congrFun e86 _) _).trans (gset_eq _ _ _ _))))))))))))))))))))))))))), (by rw [hv1, ← ho81]; exact ((congrFun (congrFun e110 _) _).trans ((gset_ne (by omega)).trans ((congrFun (congrFun e108 _) _).trans ((gset_ne (by omega)).trans ((congrFun (congrFun e106 _) _).trans ((gset_ne (by omega)).trans ((congrFun (congrFun e104 _) _).trans ((gset_ne (by omega)).trans ((congrFun (congrFun e102 _) _).trans ((gset_ne (by omega)).trans ((congrFun (congrFun e100 _) _).trans ((gset_ne (by omega)).trans ((congrFun (congrFun e98 _) _).trans ((gset_ne (by omega)).trans ((congrFun (congrFun e96 _) _).trans ((gset_ne (by omega)).trans ((congrFun (congrFun e94 _) _).trans ((gset_ne (by omega)).trans ((congrFun (congrFun e92 _) _).trans ((gset_ne (by omega)).trans ((congrFun (congrFun e90 _) _).trans ((gset_ne (by omega)).trans ((congrFun (congrFun e88 _) _).trans (gset_eq _ _ _ _))))))))))))))))))))))))), (by rw [hv1, ← ho81]; exact ((congrFun (congrFun e110 _) _).trans ((gset_ne (by omega)).trans ((congrFun (congrFun e108 _) _).trans ((gset_ne (by omega)).trans ((congrFun (congrFun e106 _) _).trans ((gset_ne (by omega)).trans ((congrFun (congrFun e104 _) _).trans ((gset_ne (by omega)).trans ((congrFun (congrFun e102 _) _).trans ((gset_ne (by omega)).trans ((congrFun (congrFun e100 _) _).trans (gset_eq _ _ _ _)))))))))))))⟩⟩
                  · refine g_bipush (n := 131) X dX11_person_129 (by decide +kernel) rfl ?_
                    have qf0 : M (31 + d) 0 = v76 := by rw [← ho75]; exact hv76
                    have qf1 : M (31 + d) 1 = v78 := by rw [← ho75]; exact hv78
                    exact hq _ _ _ _ dX11_person_131 ⟨by omega, I, C, gFr.rf, Or.inl ⟨by omega, rfl, fun p h0 h1 => rfl, fun p h0 h1 => rfl, fun p h0 h1 => rfl⟩⟩
                · refine g_bipush (n := 116) X dX11_person_114 (by decide +kernel) rfl ?_
                  have qf0 : M (31 + d) 0 = v76 := by rw [← ho75]; exact hv76
                  have qf1 : M (31 + d) 1 = v78 := by rw [← ho75]; exact hv78
                  exact hq _ _ _ _ dX11_person_116 ⟨by omega, I, C, gFr.rf, Or.inl ⟨by omega, rfl, fun p h0 h1 => rfl, fun p h0 h1 => rfl, fun p h0 h1 => rfl⟩⟩
            · refine g_bipush (n := 75) X dX11_person_73 (by decide +kernel) rfl ?_
              exact hq _ _ _ _ dX11_person_75 ⟨by omega, I, C, gFr.rf, Or.inl ⟨by omega, rfl, fun p h0 h1 => rfl, fun p h0 h1 => rfl, fun p h0 h1 => rfl⟩⟩
      · refine g_iconst (n := 35) X dX11_person_34 rfl ?_
        exact hq _ _ _ _ dX11_person_35 ⟨by omega, I, C, gFr.rf, Or.inl ⟨by omega, rfl, fun p h0 h1 => rfl, fun p h0 h1 => rfl, fun p h0 h1 => rfl⟩⟩
theorem dX11_about_0 : decode cX11_about 0 = .ok (.aload_n 0, 1) := dc_42 (by decide +kernel)
theorem dX11_about_1 : decode cX11_about 1 = .ok (.iload_n 1, 1) := dc_27 (by decide +kernel)
theorem dX11_about_2 : decode cX11_about 2 = .ok (.invokevirtual 82, 3) := dc_182 0 82 (by decide +kernel)
theorem dX11_about_5 : decode cX11_about 5 = .ok (.ifCond .ne 5, 3) := dc_154 0 5 5 (by decide +kernel)
theorem dX11_about_10 : decode cX11_about 10 = .ok (.aload_n 0, 1) := dc_42 (by decide +kernel)
theorem dX11_about_11 : decode cX11_about 11 = .ok (.getfield 10, 3) := dc_180 0 10 (by decide +kernel)
theorem dX11_about_14 : decode cX11_about 14 = .ok (.getfield 89, 3) := dc_180 0 89 (by decide +kernel)
theorem dX11_about_17 : decode cX11_about 17 = .ok (.iload_n 1, 1) := dc_27 (by decide +kernel)
theorem dX11_about_18 : decode cX11_about 18 = .ok (.aaload, 1) := dc_50 (by decide +kernel)
theorem dX11_about_19 : decode cX11_about 19 = .ok (.astore_n 3, 1) := dc_78 (by decide +kernel)
theorem dX11_about_20 : decode cX11_about 20 = .ok (.iload_n 2, 1) := dc_28 (by decide +kernel)
theorem dX11_about_21 : decode cX11_about 21 = .ok (.tableswitch 114 0 10 #[59, 64, 69, 74, 79, 84, 89, 94, 99, 104, 109], 59) := by decide +kernel
theorem dX11_about_80 : decode cX11_about 80 = .ok (.aload_n 3, 1) := dc_45 (by decide +kernel)
theorem dX11_about_81 : decode cX11_about 81 = .ok (.getfield 92, 3) := dc_180 0 92 (by decide +kernel)
theorem dX11_about_84 : decode cX11_about 84 = .ok (.ireturn, 1) := dc_172 (by decide +kernel)
theorem dX11_about_85 : decode cX11_about 85 = .ok (.aload_n 3, 1) := dc_45 (by decide +kernel)
theorem dX11_about_86 : decode cX11_about 86 = .ok (.getfield 95, 3) := dc_180 0 95 (by decide +kernel)
theorem dX11_about_89 : decode cX11_about 89 = .ok (.ireturn, 1) := dc_172 (by decide +kernel)
theorem dX11_about_90 : decode cX11_about 90 = .ok (.aload_n 3, 1) := dc_45 (by decide +kernel)
theorem dX11_about_91 : decode cX11_about 91 = .ok (.getfield 105, 3) := dc_180 0 105 (by decide +kernel)
theorem kw_1_183 : (Jvm.Cond.fieldLink "ParishUnion" (105 : Nat) "ParishUnion$Person" "birthplace" "I") ∈ gT := gT_of (tb_1 _ (List.mem_of_getElem? (i := 183) rfl)) rfl
theorem dX11_about_94 : decode cX11_about 94 = .ok (.ireturn, 1) := dc_172 (by decide +kernel)
theorem dX11_about_95 : decode cX11_about 95 = .ok (.aload_n 3, 1) := dc_45 (by decide +kernel)
theorem dX11_about_96 : decode cX11_about 96 = .ok (.getfield 108, 3) := dc_180 0 108 (by decide +kernel)
theorem kw_1_186 : (Jvm.Cond.fieldLink "ParishUnion" (108 : Nat) "ParishUnion$Person" "father" "I") ∈ gT := gT_of (tb_1 _ (List.mem_of_getElem? (i := 186) rfl)) rfl
theorem dX11_about_99 : decode cX11_about 99 = .ok (.ireturn, 1) := dc_172 (by decide +kernel)
theorem dX11_about_100 : decode cX11_about 100 = .ok (.aload_n 3, 1) := dc_45 (by decide +kernel)
theorem dX11_about_101 : decode cX11_about 101 = .ok (.getfield 111, 3) := dc_180 0 111 (by decide +kernel)
theorem kw_1_188 : (Jvm.Cond.fieldLink "ParishUnion" (111 : Nat) "ParishUnion$Person" "strength" "I") ∈ gT := gT_of (tb_1 _ (List.mem_of_getElem? (i := 188) rfl)) rfl
theorem dX11_about_104 : decode cX11_about 104 = .ok (.ireturn, 1) := dc_172 (by decide +kernel)
theorem dX11_about_105 : decode cX11_about 105 = .ok (.aload_n 3, 1) := dc_45 (by decide +kernel)
theorem dX11_about_106 : decode cX11_about 106 = .ok (.getfield 114, 3) := dc_180 0 114 (by decide +kernel)
theorem kw_1_193 : (Jvm.Cond.fieldLink "ParishUnion" (114 : Nat) "ParishUnion$Person" "at" "I") ∈ gT := gT_of (tb_1 _ (List.mem_of_getElem? (i := 193) rfl)) rfl
theorem dX11_about_109 : decode cX11_about 109 = .ok (.ireturn, 1) := dc_172 (by decide +kernel)
theorem dX11_about_110 : decode cX11_about 110 = .ok (.aload_n 3, 1) := dc_45 (by decide +kernel)
theorem dX11_about_111 : decode cX11_about 111 = .ok (.getfield 117, 3) := dc_180 0 117 (by decide +kernel)
theorem kw_1_197 : (Jvm.Cond.fieldLink "ParishUnion" (117 : Nat) "ParishUnion$Person" "hunger" "I") ∈ gT := gT_of (tb_1 _ (List.mem_of_getElem? (i := 197) rfl)) rfl
theorem dX11_about_114 : decode cX11_about 114 = .ok (.ireturn, 1) := dc_172 (by decide +kernel)
theorem dX11_about_115 : decode cX11_about 115 = .ok (.aload_n 3, 1) := dc_45 (by decide +kernel)
theorem dX11_about_116 : decode cX11_about 116 = .ok (.getfield 120, 3) := dc_180 0 120 (by decide +kernel)
theorem kw_1_201 : (Jvm.Cond.fieldLink "ParishUnion" (120 : Nat) "ParishUnion$Person" "ill" "I") ∈ gT := gT_of (tb_1 _ (List.mem_of_getElem? (i := 201) rfl)) rfl
theorem dX11_about_119 : decode cX11_about 119 = .ok (.ireturn, 1) := dc_172 (by decide +kernel)
theorem dX11_about_120 : decode cX11_about 120 = .ok (.aload_n 3, 1) := dc_45 (by decide +kernel)
theorem dX11_about_121 : decode cX11_about 121 = .ok (.getfield 123, 3) := dc_180 0 123 (by decide +kernel)
theorem kw_1_204 : (Jvm.Cond.fieldLink "ParishUnion" (123 : Nat) "ParishUnion$Person" "ward" "I") ∈ gT := gT_of (tb_1 _ (List.mem_of_getElem? (i := 204) rfl)) rfl
theorem dX11_about_124 : decode cX11_about 124 = .ok (.ireturn, 1) := dc_172 (by decide +kernel)
theorem dX11_about_125 : decode cX11_about 125 = .ok (.aload_n 3, 1) := dc_45 (by decide +kernel)
theorem dX11_about_126 : decode cX11_about 126 = .ok (.getfield 126, 3) := dc_180 0 126 (by decide +kernel)
theorem kw_1_207 : (Jvm.Cond.fieldLink "ParishUnion" (126 : Nat) "ParishUnion$Person" "master" "I") ∈ gT := gT_of (tb_1 _ (List.mem_of_getElem? (i := 207) rfl)) rfl
theorem dX11_about_129 : decode cX11_about 129 = .ok (.ireturn, 1) := dc_172 (by decide +kernel)
theorem dX11_about_130 : decode cX11_about 130 = .ok (.aload_n 3, 1) := dc_45 (by decide +kernel)
theorem dX11_about_131 : decode cX11_about 131 = .ok (.getfield 129, 3) := dc_180 0 129 (by decide +kernel)
theorem kw_1_210 : (Jvm.Cond.fieldLink "ParishUnion" (129 : Nat) "ParishUnion$Person" "askedFrom" "I") ∈ gT := gT_of (tb_1 _ (List.mem_of_getElem? (i := 210) rfl)) rfl
theorem dX11_about_134 : decode cX11_about 134 = .ok (.ireturn, 1) := dc_172 (by decide +kernel)
theorem dX11_about_135 : decode cX11_about 135 = .ok (.iconst (-1), 1) := dc_2 (by decide +kernel)
theorem dX11_about_136 : decode cX11_about 136 = .ok (.ireturn, 1) := dc_172 (by decide +kernel)
theorem dX11_about_8 : decode cX11_about 8 = .ok (.iconst (-1), 1) := dc_2 (by decide +kernel)
theorem dX11_about_9 : decode cX11_about 9 = .ok (.ireturn, 1) := dc_172 (by decide +kernel)
abbrev R_X11_about : Room := { frames := 2, cells := 0, slots := 0, locals := 43 }
set_option maxRecDepth 100000 in
set_option maxHeartbeats 4000000 in
theorem s_X11_about {l : Launch} {n0 : Nat} {D : va_G} {cA : Nat → ClassId} {M : gM} (a : Int) (r_a : -2147483648 ≤ a ∧ a ≤ 2147483647) (b : Int) (r_b : -2147483648 ≤ b ∧ b ≤ 2147483647) {sz : Nat} (hsz : 206 ≤ sz) (I : gI sz M) (C : gC sz M)   : Met l yX11_about (gWsOf yX11_about cX11_about 4 (Option.some Jvm.ClassFile.FieldType.int)) R_X11_about (gPc n0 D cA [gA n0 0, gJ a, gJ b] M sz) (gQi n0 D cA sz (fun z M1 => M = M1 ∧ (-2147483648 ≤ z ∧ z ≤ 2147483647))) 0 0 (fun q => n0 ≤ q) := by
  refine gMetI [gA n0 0, gJ a, gJ b] (by decide) (Nat.le_of_ble_eq_true rfl) ⟨rfl, rfl⟩ ?_
  intro p e s m args below meth cd Q X hq
  have X : gCx p s m args meth cd n0 D cA "ParishUnion" cX11_about 4 := X
  show G p l e R_X11_about s m args below meth cd n0 D cA 4 Q 0 0 M sz 0 [(0, gA n0 0), (1, gJ a), (2, gJ b)] []
  refine g_aload_n (n := 1) X 0 dX11_about_0 rfl rfl rfl ?_
  refine g_iload_n (n := 2) X 1 dX11_about_1 rfl rfl rfl ?_
  refine g_callVi (n := 5) (As := [gJ a]) (rest := []) (cs1 := 0) (ss1 := 0) X (s_X11_isPerson a (by omega) hsz I C ) okX11_isPerson kw_3_56 ⟨kw_3_58, kw_0_0⟩ ⟨rfl, rfl⟩ ⟨Nat.le_of_ble_eq_true rfl, Nat.le_of_ble_eq_true rfl⟩ rfl (by decide) (gsz hsz (by decide)) lay_0 rfl rfl (Nat.le_of_ble_eq_true rfl) ⟨Nat.le_of_ble_eq_true rfl, Nat.le_of_ble_eq_true rfl⟩ rfl rfl dX11_about_2 rfl (fun v1 M2 P3 => ?_)
  obtain ⟨rfl, rv1, xv1⟩ := P3
  refine g_if_ne (n := 8) (tgt := 10) X dX11_about_5 (by decide) (by omega) rfl (fun c4 => ?_) (fun c4 => ?_)
  · refine g_aload_n (n := 11) X 0 dX11_about_10 rfl rfl rfl ?_
    refine gg_11_0 (n := 14) (z := 1) X (by decide) (gsz hsz (by decide)) lay_0 kw_2_231 dX11_about_11 rfl (rf_0_0 I (gsz hsz (by decide))) (by decide) ?_
    refine gg_9_1 (n := 17) (z := 5) X (by decide) (gsz hsz (by decide)) lay_1 kw_2_108 dX11_about_14 rfl (rf_1_1 I (gsz hsz (by decide))) (by decide) ?_
    refine g_iload_n (n := 18) X 1 dX11_about_17 rfl rfl rfl ?_
    obtain ⟨o5, ho5, ro5⟩ : ∃ o : Int, o = 31 + a ∧ (31 ≤ o ∧ o < 47) := ⟨_, rfl, by omega⟩
    refine g_aald6 (n := 19) (t := o5) X (by decide) (gsz hsz (by decide)) lay_5 (by omega) (by omega) (by decide) (gA5 I hsz (by omega) (by omega) (by omega)) (by omega) dX11_about_18 rfl ?_
    refine g_astore_n (n := 20) (L' := [(3, gA n0 o5), (0, gA n0 0), (1, gJ a), (2, gJ b)]) X dX11_about_19 rfl (by decide) rfl rfl ?_
    refine g_iload_n (n := 21) X 3 dX11_about_20 rfl rfl rfl ?_
    by_cases c6 : b = 0
    · refine g_tableIn (tgt := 80) X 0 dX11_about_21 (by omega) (by omega) (by omega) (by omega) rfl (by decide) ?_
      refine g_aload_n (n := 81) X 0 dX11_about_80 rfl rfl rfl ?_
      obtain ⟨v7, hv7, rv7⟩ := gRd I (Po0 ro5) (Posz hsz ro5) (rP_0 ro5).1
      refine gg_6_0 (n := 84) (z := v7) X (Po0 ro5) (Posz hsz ro5) (lay2_P ro5) kw_1_176 dX11_about_81 rfl hv7 ?_
      exact hq _ _ _ _ dX11_about_84 ⟨rfl, by omega⟩
    by_cases c8 : b = 1
    · refine g_tableIn (tgt := 85) X 1 dX11_about_21 (by omega) (by omega) (by omega) (by omega) rfl (by decide) ?_
      refine g_aload_n (n := 86) X 0 dX11_about_85 rfl rfl rfl ?_
      obtain ⟨v9, hv9, rv9⟩ := gRd I (Po0 ro5) (Posz hsz ro5) (rP_1 ro5).1
      refine gg_6_1 (n := 89) (z := v9) X (Po0 ro5) (Posz hsz ro5) (lay2_P ro5) kw_1_180 dX11_about_86 rfl hv9 ?_
      exact hq _ _ _ _ dX11_about_89 ⟨rfl, by omega⟩
    by_cases c10 : b = 2
    · refine g_tableIn (tgt := 90) X 2 dX11_about_21 (by omega) (by omega) (by omega) (by omega) rfl (by decide) ?_
      refine g_aload_n (n := 91) X 0 dX11_about_90 rfl rfl rfl ?_
      obtain ⟨v11, hv11, rv11⟩ := gRd I (Po0 ro5) (Posz hsz ro5) (rP_2 ro5).1
      refine gg_6_2 (n := 94) (z := v11) X (Po0 ro5) (Posz hsz ro5) (lay2_P ro5) kw_1_183 dX11_about_91 rfl hv11 ?_
      exact hq _ _ _ _ dX11_about_94 ⟨rfl, by omega⟩
    by_cases c12 : b = 3
    · refine g_tableIn (tgt := 95) X 3 dX11_about_21 (by omega) (by omega) (by omega) (by omega) rfl (by decide) ?_
      refine g_aload_n (n := 96) X 0 dX11_about_95 rfl rfl rfl ?_
      obtain ⟨v13, hv13, rv13⟩ := gRd I (Po0 ro5) (Posz hsz ro5) (rP_3 ro5).1
      refine gg_6_3 (n := 99) (z := v13) X (Po0 ro5) (Posz hsz ro5) (lay2_P ro5) kw_1_186 dX11_about_96 rfl hv13 ?_
      exact hq _ _ _ _ dX11_about_99 ⟨rfl, by omega⟩
    by_cases c14 : b = 4
    · refine g_tableIn (tgt := 100) X 4 dX11_about_21 (by omega) (by omega) (by omega) (by omega) rfl (by decide) ?_
      refine g_aload_n (n := 101) X 0 dX11_about_100 rfl rfl rfl ?_
      obtain ⟨v15, hv15, rv15⟩ := gRd I (Po0 ro5) (Posz hsz ro5) (rP_4 ro5).1
      refine gg_6_4 (n := 104) (z := v15) X (Po0 ro5) (Posz hsz ro5) (lay2_P ro5) kw_1_188 dX11_about_101 rfl hv15 ?_
      exact hq _ _ _ _ dX11_about_104 ⟨rfl, by omega⟩
    by_cases c16 : b = 5
    · refine g_tableIn (tgt := 105) X 5 dX11_about_21 (by omega) (by omega) (by omega) (by omega) rfl (by decide) ?_
      refine g_aload_n (n := 106) X 0 dX11_about_105 rfl rfl rfl ?_
      obtain ⟨v17, hv17, rv17⟩ := gRd I (Po0 ro5) (Posz hsz ro5) (rP_5 ro5).1
      refine gg_6_5 (n := 109) (z := v17) X (Po0 ro5) (Posz hsz ro5) (lay2_P ro5) kw_1_193 dX11_about_106 rfl hv17 ?_
      exact hq _ _ _ _ dX11_about_109 ⟨rfl, by omega⟩
    by_cases c18 : b = 6
    · refine g_tableIn (tgt := 110) X 6 dX11_about_21 (by omega) (by omega) (by omega) (by omega) rfl (by decide) ?_
      refine g_aload_n (n := 111) X 0 dX11_about_110 rfl rfl rfl ?_
      obtain ⟨v19, hv19, rv19⟩ := gRd I (Po0 ro5) (Posz hsz ro5) (rP_6 ro5).1
      refine gg_6_6 (n := 114) (z := v19) X (Po0 ro5) (Posz hsz ro5) (lay2_P ro5) kw_1_197 dX11_about_111 rfl hv19 ?_
      exact hq _ _ _ _ dX11_about_114 ⟨rfl, by omega⟩
    by_cases c20 : b = 7
    · refine g_tableIn (tgt := 115) X 7 dX11_about_21 (by omega) (by omega) (by omega) (by omega) rfl (by decide) ?_
      refine g_aload_n (n := 116) X 0 dX11_about_115 rfl rfl rfl ?_
      obtain ⟨v21, hv21, rv21⟩ := gRd I (Po0 ro5) (Posz hsz ro5) (rP_7 ro5).1
      refine gg_6_7 (n := 119) (z := v21) X (Po0 ro5) (Posz hsz ro5) (lay2_P ro5) kw_1_201 dX11_about_116 rfl hv21 ?_
      exact hq _ _ _ _ dX11_about_119 ⟨rfl, by omega⟩
    by_cases c22 : b = 8
    · refine g_tableIn (tgt := 120) X 8 dX11_about_21 (by omega) (by omega) (by omega) (by omega) rfl (by decide) ?_
      refine g_aload_n (n := 121) X 0 dX11_about_120 rfl rfl rfl ?_
      obtain ⟨v23, hv23, rv23⟩ := gRd I (Po0 ro5) (Posz hsz ro5) (rP_8 ro5).1
      refine gg_6_8 (n := 124) (z := v23) X (Po0 ro5) (Posz hsz ro5) (lay2_P ro5) kw_1_204 dX11_about_121 rfl hv23 ?_
      exact hq _ _ _ _ dX11_about_124 ⟨rfl, by omega⟩
    by_cases c24 : b = 9
    · refine g_tableIn (tgt := 125) X 9 dX11_about_21 (by omega) (by omega) (by omega) (by omega) rfl (by decide) ?_
      refine g_aload_n (n := 126) X 0 dX11_about_125 rfl rfl rfl ?_
      obtain ⟨v25, hv25, rv25⟩ := gRd I (Po0 ro5) (Posz hsz ro5) (rP_9 ro5).1
      refine gg_6_9 (n := 129) (z := v25) X (Po0 ro5) (Posz hsz ro5) (lay2_P ro5) kw_1_207 dX11_about_126 rfl hv25 ?_
      exact hq _ _ _ _ dX11_about_129 ⟨rfl, by omega⟩
    by_cases c26 : b = 10
    · refine g_tableIn (tgt := 130) X 10 dX11_about_21 (by omega) (by omega) (by omega) (by omega) rfl (by decide) ?_
      refine g_aload_n (n := 131) X 0 dX11_about_130 rfl rfl rfl ?_
      obtain ⟨v27, hv27, rv27⟩ := gRd I (Po0 ro5) (Posz hsz ro5) (rP_10 ro5).1
      refine gg_6_10 (n := 134) (z := v27) X (Po0 ro5) (Posz hsz ro5) (lay2_P ro5) kw_1_210 dX11_about_131 rfl hv27 ?_
      exact hq _ _ _ _ dX11_about_134 ⟨rfl, by omega⟩
    refine g_tableOut (tgt := 135) X dX11_about_21 (by omega) (by omega) (by decide) ?_
    refine g_iconst (n := 136) X dX11_about_135 rfl ?_
    exact hq _ _ _ _ dX11_about_136 ⟨rfl, by omega⟩
  · refine g_iconst (n := 9) X dX11_about_8 rfl ?_
    exact hq _ _ _ _ dX11_about_9 ⟨rfl, by omega⟩
theorem dX11_hire_0 : decode cX11_hire 0 = .ok (.aload_n 0, 1) := dc_42 (by decide +kernel)
theorem dX11_hire_1 : decode cX11_hire 1 = .ok (.iload_n 1, 1) := dc_27 (by decide +kernel)
theorem dX11_hire_2 : decode cX11_hire 2 = .ok (.invokevirtual 82, 3) := dc_182 0 82 (by decide +kernel)
theorem dX11_hire_5 : decode cX11_hire 5 = .ok (.ifCond .eq 10, 3) := dc_153 0 10 10 (by decide +kernel)
theorem dX11_hire_15 : decode cX11_hire 15 = .ok (.iconst (-1), 1) := dc_2 (by decide +kernel)
theorem dX11_hire_16 : decode cX11_hire 16 = .ok (.ireturn, 1) := dc_172 (by decide +kernel)
theorem dX11_hire_8 : decode cX11_hire 8 = .ok (.iload_n 2, 1) := dc_28 (by decide +kernel)
theorem dX11_hire_9 : decode cX11_hire 9 = .ok (.invokestatic 58, 3) := dc_184 0 58 (by decide +kernel)
theorem dX11_hire_12 : decode cX11_hire 12 = .ok (.ifCond .ne 5, 3) := dc_154 0 5 5 (by decide +kernel)
theorem dX11_hire_17 : decode cX11_hire 17 = .ok (.iload_n 3, 1) := dc_29 (by decide +kernel)
theorem dX11_hire_18 : decode cX11_hire 18 = .ok (.iconst 1, 1) := dc_4 (by decide +kernel)
theorem dX11_hire_19 : decode cX11_hire 19 = .ok (.sipush 200, 3) := dc_17 0 200 200 (by decide +kernel)
theorem dX11_hire_22 : decode cX11_hire 22 = .ok (.invokestatic 62, 3) := dc_184 0 62 (by decide +kernel)
theorem dX11_hire_25 : decode cX11_hire 25 = .ok (.ifCond .eq 21, 3) := dc_153 0 21 21 (by decide +kernel)
theorem dX11_hire_46 : decode cX11_hire 46 = .ok (.bipush (-2), 2) := dc_16 254 (-2) (by decide +kernel)
theorem dX11_hire_48 : decode cX11_hire 48 = .ok (.ireturn, 1) := dc_172 (by decide +kernel)
theorem dX11_hire_28 : decode cX11_hire 28 = .ok (.iload 4, 2) := dc_21 4 (by decide +kernel)
theorem dX11_hire_30 : decode cX11_hire 30 = .ok (.sipush (-3000), 3) := dc_17 244 72 (-3000) (by decide +kernel)
theorem dX11_hire_33 : decode cX11_hire 33 = .ok (.aload_n 0, 1) := dc_42 (by decide +kernel)
theorem dX11_hire_34 : decode cX11_hire 34 = .ok (.getfield 10, 3) := dc_180 0 10 (by decide +kernel)
theorem dX11_hire_37 : decode cX11_hire 37 = .ok (.getfield 85, 3) := dc_180 0 85 (by decide +kernel)
theorem dX11_hire_40 : decode cX11_hire 40 = .ok (.invokestatic 62, 3) := dc_184 0 62 (by decide +kernel)
theorem dX11_hire_43 : decode cX11_hire 43 = .ok (.ifCond .ne 6, 3) := dc_154 0 6 6 (by decide +kernel)
theorem dX11_hire_49 : decode cX11_hire 49 = .ok (.aload_n 0, 1) := dc_42 (by decide +kernel)
theorem dX11_hire_50 : decode cX11_hire 50 = .ok (.getfield 10, 3) := dc_180 0 10 (by decide +kernel)
theorem dX11_hire_53 : decode cX11_hire 53 = .ok (.iload 5, 2) := dc_21 5 (by decide +kernel)
theorem dX11_hire_55 : decode cX11_hire 55 = .ok (.ifCond .eq 7, 3) := dc_153 0 7 7 (by decide +kernel)
theorem dX11_hire_62 : decode cX11_hire 62 = .ok (.iconst 1, 1) := dc_4 (by decide +kernel)
theorem dX11_hire_63 : decode cX11_hire 63 = .ok (.iload_n 1, 1) := dc_27 (by decide +kernel)
theorem dX11_hire_64 : decode cX11_hire 64 = .ok (.iload_n 2, 1) := dc_28 (by decide +kernel)
theorem dX11_hire_65 : decode cX11_hire 65 = .ok (.iload_n 3, 1) := dc_29 (by decide +kernel)
theorem dX11_hire_66 : decode cX11_hire 66 = .ok (.iload 4, 2) := dc_21 4 (by decide +kernel)
theorem dX11_hire_68 : decode cX11_hire 68 = .ok (.iload 6, 2) := dc_21 6 (by decide +kernel)
theorem dX11_hire_70 : decode cX11_hire 70 = .ok (.invokevirtual 132, 3) := dc_182 0 132 (by decide +kernel)
theorem kw_3_76 : (Jvm.Cond.methodLink "ParishUnion" (132 : Nat) ({ cls := "ParishUnion$Union", name := "tellRight", desc := "(IIIIIZ)I" } : Jvm.MethodName)) ∈ gT := gT_of (tb_3 _ (List.mem_of_getElem? (i := 76) rfl)) rfl
theorem kw_3_79 : (Jvm.Cond.code ({ cls := "ParishUnion$Union", name := "tellRight", desc := "(IIIIIZ)I" } : Jvm.MethodName) prog_11_method_3_code (8 : Nat) (Option.some Jvm.ClassFile.FieldType.int)) ∈ gT := gT_of (tb_3 _ (List.mem_of_getElem? (i := 79) rfl)) rfl
theorem okX9_tellRight : gQok yX9_tellRight cX9_tellRight 8 (Option.some Jvm.ClassFile.FieldType.int) 6 := ⟨kw_3_79, kw_1_2, by decide +kernel, by decide +kernel, by decide +kernel⟩
theorem kw_3_77 : (Jvm.Cond.instanceMethod ({ cls := "ParishUnion$Union", name := "tellRight", desc := "(IIIIIZ)I" } : Jvm.MethodName)) ∈ gT := gT_of (tb_3 _ (List.mem_of_getElem? (i := 77) rfl)) rfl
theorem kw_3_78 : (Jvm.Cond.selects "ParishUnion$Union" ({ cls := "ParishUnion$Union", name := "tellRight", desc := "(IIIIIZ)I" } : Jvm.MethodName) ({ cls := "ParishUnion$Union", name := "tellRight", desc := "(IIIIIZ)I" } : Jvm.MethodName)) ∈ gT := gT_of (tb_3 _ (List.mem_of_getElem? (i := 78) rfl)) rfl
theorem dX11_hire_73 : decode cX11_hire 73 = .ok (.ireturn, 1) := dc_172 (by decide +kernel)
theorem dX11_hire_58 : decode cX11_hire 58 = .ok (.iconst 4, 1) := dc_7 (by decide +kernel)
theorem dX11_hire_59 : decode cX11_hire 59 = .ok (.goto 4, 3) := dc_167 0 4 4 (by decide +kernel)
abbrev R_X11_hire : Room := { frames := 2, cells := 0, slots := 0, locals := 52 }
set_option maxRecDepth 100000 in
set_option maxHeartbeats 4000000 in
theorem s_X11_hire {l : Launch} {n0 : Nat} {D : va_G} {cA : Nat → ClassId} {M : gM} (a : Int) (r_a : -2147483648 ≤ a ∧ a ≤ 2147483647) (b : Int) (r_b : -2147483648 ≤ b ∧ b ≤ 2147483647) (c : Int) (r_c : -2147483648 ≤ c ∧ c ≤ 2147483647) (d : Int) (r_d : -2147483648 ≤ d ∧ d ≤ 2147483647) (f : Int) (r_f : 0 ≤ f ∧ f ≤ 1) (g : Int) (r_g : 0 ≤ g ∧ g ≤ 1) {sz : Nat} (hsz : 206 ≤ sz) (I : gI sz M) (C : gC sz M)   : Met l yX11_hire (gWsOf yX11_hire cX11_hire 7 (Option.some Jvm.ClassFile.FieldType.int)) R_X11_hire (gPc n0 D cA [gA n0 0, gJ a, gJ b, gJ c, gJ d, gJ f, gJ g] M sz) (gQi n0 D cA sz (fun z M1 => (-4 ≤ z ∧ z ≤ 39) ∧ gI sz M1 ∧ gC sz M1 ∧ gFr 1237940039285380274901221504 M M1 ∧ ((((¬ (0 ≤ a ∧ a < M 1 10) ∨ ¬ (0 ≤ b ∧ b ≤ 5)) ∧ z = -1) ∨ (¬ (¬ (0 ≤ a ∧ a < M 1 10) ∨ ¬ (0 ≤ b ∧ b ≤ 5)) ∧ (¬ (1 ≤ c ∧ c ≤ 200) ∨ ¬ (-3000 ≤ d ∧ d ≤ M 1 15)) ∧ z = -2)) ∧ pSameX M M1 ∨ (¬ (¬ (0 ≤ a ∧ a < M 1 10) ∨ ¬ (0 ≤ b ∧ b ≤ 5)) ∧ ¬ (¬ (1 ≤ c ∧ c ≤ 200) ∨ ¬ (-3000 ≤ d ∧ d ≤ M 1 15))) ∧ ((f = 1 ∧ pTellX 4 a b c d g z M M1) ∨ (f = 0 ∧ pTellX 1 a b c d g z M M1))))) 0 0 (fun q => n0 ≤ q) := by
  refine gMetI [gA n0 0, gJ a, gJ b, gJ c, gJ d, gJ f, gJ g] (by decide) (Nat.le_of_ble_eq_true rfl) ⟨rfl, rfl⟩ ?_
  intro p e s m args below meth cd Q X hq
  have X : gCx p s m args meth cd n0 D cA "ParishUnion" cX11_hire 7 := X
  show G p l e R_X11_hire s m args below meth cd n0 D cA 7 Q 0 0 M sz 0 [(0, gA n0 0), (1, gJ a), (2, gJ b), (3, gJ c), (4, gJ d), (5, gJ f), (6, gJ g)] []
  obtain ⟨v1, hv1, rv1⟩ := gRd I (by decide) (gsz hsz (by decide)) rc_1_10.1
  obtain ⟨v2, hv2, rv2⟩ := gRd I (by decide) (gsz hsz (by decide)) rc_1_15.1
  refine g_aload_n (n := 1) X 0 dX11_hire_0 rfl rfl rfl ?_
  refine g_iload_n (n := 2) X 1 dX11_hire_1 rfl rfl rfl ?_
  refine g_callVi (n := 5) (As := [gJ a]) (rest := []) (cs1 := 0) (ss1 := 0) X (s_X11_isPerson a (by omega) hsz I C ) okX11_isPerson kw_3_56 ⟨kw_3_58, kw_0_0⟩ ⟨rfl, rfl⟩ ⟨Nat.le_of_ble_eq_true rfl, Nat.le_of_ble_eq_true rfl⟩ rfl (by decide) (gsz hsz (by decide)) lay_0 rfl rfl (Nat.le_of_ble_eq_true rfl) ⟨Nat.le_of_ble_eq_true rfl, Nat.le_of_ble_eq_true rfl⟩ rfl rfl dX11_hire_2 rfl (fun v3 M4 P5 => ?_)
  obtain ⟨rfl, rv3, xv3⟩ := P5
  refine g_if_eq (n := 8) (tgt := 15) X dX11_hire_5 (by decide) (by omega) rfl (fun c6 => ?_) (fun c6 => ?_)
  · refine g_iconst (n := 16) X dX11_hire_15 rfl ?_
    exact hq _ _ _ _ dX11_hire_16 ⟨by omega, I, C, gFr.rf, Or.inl ⟨by omega, pSameX.rf⟩⟩
  · refine g_iload_n (n := 9) X 2 dX11_hire_8 rfl rfl rfl ?_
    refine g_callSi (n := 12) (As := [gJ b]) (rest := []) (cs1 := 0) (ss1 := 0) X (s_X11_isParish b (by omega) hsz I C ) okX11_isParish kw_3_26 kw_3_27 ⟨rfl, rfl⟩ ⟨Nat.le_of_ble_eq_true rfl, Nat.le_of_ble_eq_true rfl⟩ rfl rfl (Nat.le_of_ble_eq_true rfl) ⟨Nat.le_of_ble_eq_true rfl, Nat.le_of_ble_eq_true rfl⟩ rfl rfl dX11_hire_9 rfl (fun v7 M8 P9 => ?_)
    obtain ⟨rfl, rv7, xv7⟩ := P9
    refine g_if_ne (n := 15) (tgt := 17) X dX11_hire_12 (by decide) (by omega) rfl (fun c10 => ?_) (fun c10 => ?_)
    · refine g_iload_n (n := 18) X 3 dX11_hire_17 rfl rfl rfl ?_
      refine g_iconst (n := 19) X dX11_hire_18 rfl ?_
      refine g_sipush (n := 22) X dX11_hire_19 (by decide +kernel) rfl ?_
      refine g_callSi (n := 25) (As := [gJ c, gJ 1, gJ 200]) (rest := []) (cs1 := 0) (ss1 := 0) X (s_X11_within c (by omega) 1 (by omega) 200 (by omega) hsz I C ) okX11_within kw_3_29 kw_3_30 ⟨rfl, rfl⟩ ⟨Nat.le_of_ble_eq_true rfl, Nat.le_of_ble_eq_true rfl⟩ rfl rfl (Nat.le_of_ble_eq_true rfl) ⟨Nat.le_of_ble_eq_true rfl, Nat.le_of_ble_eq_true rfl⟩ rfl rfl dX11_hire_22 rfl (fun v11 M12 P13 => ?_)
      obtain ⟨rfl, rv11, xv11⟩ := P13
      refine g_if_eq (n := 28) (tgt := 46) X dX11_hire_25 (by decide) (by omega) rfl (fun c14 => ?_) (fun c14 => ?_)
      · refine g_bipush (n := 48) X dX11_hire_46 (by decide +kernel) rfl ?_
        exact hq _ _ _ _ dX11_hire_48 ⟨by omega, I, C, gFr.rf, Or.inl ⟨by omega, pSameX.rf⟩⟩
      · refine g_iload (n := 30) X 4 dX11_hire_28 rfl rfl ?_
        refine g_sipush (n := 33) X dX11_hire_30 (by decide +kernel) rfl ?_
        refine g_aload_n (n := 34) X 0 dX11_hire_33 rfl rfl rfl ?_
        refine gg_11_0 (n := 37) (z := 1) X (by decide) (gsz hsz (by decide)) lay_0 kw_2_231 dX11_hire_34 rfl (rf_0_0 I (gsz hsz (by decide))) (by decide) ?_
        refine gg_9_15 (n := 40) (z := v2) X (by decide) (gsz hsz (by decide)) lay_1 kw_2_139 dX11_hire_37 rfl hv2 ?_
        refine g_callSi (n := 43) (As := [gJ d, gJ (-3000), gJ v2]) (rest := []) (cs1 := 0) (ss1 := 0) X (s_X11_within d (by omega) (-3000) (by omega) v2 (by omega) hsz I C ) okX11_within kw_3_29 kw_3_30 ⟨rfl, rfl⟩ ⟨Nat.le_of_ble_eq_true rfl, Nat.le_of_ble_eq_true rfl⟩ rfl rfl (Nat.le_of_ble_eq_true rfl) ⟨Nat.le_of_ble_eq_true rfl, Nat.le_of_ble_eq_true rfl⟩ rfl rfl dX11_hire_40 rfl (fun v15 M16 P17 => ?_)
        obtain ⟨rfl, rv15, xv15⟩ := P17
        refine g_if_ne (n := 46) (tgt := 49) X dX11_hire_43 (by decide) (by omega) rfl (fun c18 => ?_) (fun c18 => ?_)
        · refine g_aload_n (n := 50) X 0 dX11_hire_49 rfl rfl rfl ?_
          refine gg_11_0 (n := 53) (z := 1) X (by decide) (gsz hsz (by decide)) lay_0 kw_2_231 dX11_hire_50 rfl (rf_0_0 I (gsz hsz (by decide))) (by decide) ?_
          refine g_iload (n := 55) X 5 dX11_hire_53 rfl rfl ?_
          refine g_if_eq (n := 58) (tgt := 62) X dX11_hire_55 (by decide) (by omega) rfl (fun c19 => ?_) (fun c19 => ?_)
          · refine g_iconst (n := 63) X dX11_hire_62 rfl ?_
            refine g_iload_n (n := 64) X 1 dX11_hire_63 rfl rfl rfl ?_
            refine g_iload_n (n := 65) X 2 dX11_hire_64 rfl rfl rfl ?_
            refine g_iload_n (n := 66) X 3 dX11_hire_65 rfl rfl rfl ?_
            refine g_iload (n := 68) X 4 dX11_hire_66 rfl rfl ?_
            refine g_iload (n := 70) X 6 dX11_hire_68 rfl rfl ?_
            refine g_callVi (n := 73) (As := [gJ 1, gJ a, gJ b, gJ c, gJ d, gJ g]) (rest := []) (cs1 := 0) (ss1 := 0) X (s_X9_tellRight 1 (by omega) a (by omega) b (by omega) c (by omega) d (by omega) g (by omega) hsz I C (by omega)) okX9_tellRight kw_3_76 ⟨kw_3_77, kw_3_78⟩ ⟨rfl, rfl⟩ ⟨Nat.le_of_ble_eq_true rfl, Nat.le_of_ble_eq_true rfl⟩ rfl (by decide) (gsz hsz (by decide)) lay_1 rfl rfl (Nat.le_of_ble_eq_true rfl) ⟨Nat.le_of_ble_eq_true rfl, Nat.le_of_ble_eq_true rfl⟩ rfl rfl dX11_hire_70 rfl (fun v20 M21 P22 => ?_)
            obtain ⟨rv20, IM21, CM21, FM21, xM21⟩ := P22
            exact hq _ _ _ _ dX11_hire_73 ⟨by omega, IM21, CM21, (gFr.c gFr.rf FM21 rfl), Or.inr ⟨⟨by omega, by omega⟩, (by first | exact Or.inl ⟨by omega, xM21⟩ | exact Or.inr ⟨by omega, xM21⟩)⟩⟩
          · refine g_iconst (n := 59) X dX11_hire_58 rfl ?_
            refine g_goto (tgt := 63) X dX11_hire_59 (by decide) ?_
            refine g_iload_n (n := 64) X 1 dX11_hire_63 rfl rfl rfl ?_
            refine g_iload_n (n := 65) X 2 dX11_hire_64 rfl rfl rfl ?_
            refine g_iload_n (n := 66) X 3 dX11_hire_65 rfl rfl rfl ?_
            refine g_iload (n := 68) X 4 dX11_hire_66 rfl rfl ?_
            refine g_iload (n := 70) X 6 dX11_hire_68 rfl rfl ?_
            refine g_callVi (n := 73) (As := [gJ 4, gJ a, gJ b, gJ c, gJ d, gJ g]) (rest := []) (cs1 := 0) (ss1 := 0) X (s_X9_tellRight 4 (by omega) a (by omega) b (by omega) c (by omega) d (by omega) g (by omega) hsz I C (by omega)) okX9_tellRight kw_3_76 ⟨kw_3_77, kw_3_78⟩ ⟨rfl, rfl⟩ ⟨Nat.le_of_ble_eq_true rfl, Nat.le_of_ble_eq_true rfl⟩ rfl (by decide) (gsz hsz (by decide)) lay_1 rfl rfl (Nat.le_of_ble_eq_true rfl) ⟨Nat.le_of_ble_eq_true rfl, Nat.le_of_ble_eq_true rfl⟩ rfl rfl dX11_hire_70 rfl (fun v23 M24 P25 => ?_)
            obtain ⟨rv23, IM24, CM24, FM24, xM24⟩ := P25
            exact hq _ _ _ _ dX11_hire_73 ⟨by omega, IM24, CM24, (gFr.c gFr.rf FM24 rfl), Or.inr ⟨⟨by omega, by omega⟩, (by first | exact Or.inl ⟨by omega, xM24⟩ | exact Or.inr ⟨by omega, xM24⟩)⟩⟩
        · refine g_bipush (n := 48) X dX11_hire_46 (by decide +kernel) rfl ?_
          exact hq _ _ _ _ dX11_hire_48 ⟨by omega, I, C, gFr.rf, Or.inl ⟨by omega, pSameX.rf⟩⟩
    · refine g_iconst (n := 16) X dX11_hire_15 rfl ?_
      exact hq _ _ _ _ dX11_hire_16 ⟨by omega, I, C, gFr.rf, Or.inl ⟨by omega, pSameX.rf⟩⟩
theorem dX11_rated_0 : decode cX11_rated 0 = .ok (.aload_n 0, 1) := dc_42 (by decide +kernel)
theorem dX11_rated_1 : decode cX11_rated 1 = .ok (.iload_n 1, 1) := dc_27 (by decide +kernel)
theorem dX11_rated_2 : decode cX11_rated 2 = .ok (.invokevirtual 82, 3) := dc_182 0 82 (by decide +kernel)
theorem dX11_rated_5 : decode cX11_rated 5 = .ok (.ifCond .eq 10, 3) := dc_153 0 10 10 (by decide +kernel)
theorem dX11_rated_15 : decode cX11_rated 15 = .ok (.iconst (-1), 1) := dc_2 (by decide +kernel)
theorem dX11_rated_16 : decode cX11_rated 16 = .ok (.ireturn, 1) := dc_172 (by decide +kernel)
theorem dX11_rated_8 : decode cX11_rated 8 = .ok (.iload_n 2, 1) := dc_28 (by decide +kernel)
theorem dX11_rated_9 : decode cX11_rated 9 = .ok (.invokestatic 58, 3) := dc_184 0 58 (by decide +kernel)
theorem dX11_rated_12 : decode cX11_rated 12 = .ok (.ifCond .ne 5, 3) := dc_154 0 5 5 (by decide +kernel)
theorem dX11_rated_17 : decode cX11_rated 17 = .ok (.iload_n 3, 1) := dc_29 (by decide +kernel)
theorem dX11_rated_18 : decode cX11_rated 18 = .ok (.iconst 1, 1) := dc_4 (by decide +kernel)
theorem dX11_rated_19 : decode cX11_rated 19 = .ok (.sipush 9999, 3) := dc_17 39 15 9999 (by decide +kernel)
theorem dX11_rated_22 : decode cX11_rated 22 = .ok (.invokestatic 62, 3) := dc_184 0 62 (by decide +kernel)
theorem dX11_rated_25 : decode cX11_rated 25 = .ok (.ifCond .eq 21, 3) := dc_153 0 21 21 (by decide +kernel)
theorem dX11_rated_46 : decode cX11_rated 46 = .ok (.bipush (-2), 2) := dc_16 254 (-2) (by decide +kernel)
theorem dX11_rated_48 : decode cX11_rated 48 = .ok (.ireturn, 1) := dc_172 (by decide +kernel)
theorem dX11_rated_28 : decode cX11_rated 28 = .ok (.iload 4, 2) := dc_21 4 (by decide +kernel)
theorem dX11_rated_30 : decode cX11_rated 30 = .ok (.sipush (-3000), 3) := dc_17 244 72 (-3000) (by decide +kernel)
theorem dX11_rated_33 : decode cX11_rated 33 = .ok (.aload_n 0, 1) := dc_42 (by decide +kernel)
theorem dX11_rated_34 : decode cX11_rated 34 = .ok (.getfield 10, 3) := dc_180 0 10 (by decide +kernel)
theorem dX11_rated_37 : decode cX11_rated 37 = .ok (.getfield 85, 3) := dc_180 0 85 (by decide +kernel)
theorem dX11_rated_40 : decode cX11_rated 40 = .ok (.invokestatic 62, 3) := dc_184 0 62 (by decide +kernel)
theorem dX11_rated_43 : decode cX11_rated 43 = .ok (.ifCond .ne 6, 3) := dc_154 0 6 6 (by decide +kernel)
theorem dX11_rated_49 : decode cX11_rated 49 = .ok (.aload_n 0, 1) := dc_42 (by decide +kernel)
theorem dX11_rated_50 : decode cX11_rated 50 = .ok (.getfield 10, 3) := dc_180 0 10 (by decide +kernel)
theorem dX11_rated_53 : decode cX11_rated 53 = .ok (.iconst 2, 1) := dc_5 (by decide +kernel)
theorem dX11_rated_54 : decode cX11_rated 54 = .ok (.iload_n 1, 1) := dc_27 (by decide +kernel)
theorem dX11_rated_55 : decode cX11_rated 55 = .ok (.iload_n 2, 1) := dc_28 (by decide +kernel)
theorem dX11_rated_56 : decode cX11_rated 56 = .ok (.iload_n 3, 1) := dc_29 (by decide +kernel)
theorem dX11_rated_57 : decode cX11_rated 57 = .ok (.iload 4, 2) := dc_21 4 (by decide +kernel)
theorem dX11_rated_59 : decode cX11_rated 59 = .ok (.iload 5, 2) := dc_21 5 (by decide +kernel)
theorem dX11_rated_61 : decode cX11_rated 61 = .ok (.invokevirtual 132, 3) := dc_182 0 132 (by decide +kernel)
theorem dX11_rated_64 : decode cX11_rated 64 = .ok (.ireturn, 1) := dc_172 (by decide +kernel)
abbrev R_X11_rated : Room := { frames := 2, cells := 0, slots := 0, locals := 52 }
set_option maxRecDepth 100000 in
set_option maxHeartbeats 4000000 in
theorem s_X11_rated {l : Launch} {n0 : Nat} {D : va_G} {cA : Nat → ClassId} {M : gM} (a : Int) (r_a : -2147483648 ≤ a ∧ a ≤ 2147483647) (b : Int) (r_b : -2147483648 ≤ b ∧ b ≤ 2147483647) (c : Int) (r_c : -2147483648 ≤ c ∧ c ≤ 2147483647) (d : Int) (r_d : -2147483648 ≤ d ∧ d ≤ 2147483647) (f : Int) (r_f : 0 ≤ f ∧ f ≤ 1) {sz : Nat} (hsz : 206 ≤ sz) (I : gI sz M) (C : gC sz M)   : Met l yX11_rated (gWsOf yX11_rated cX11_rated 6 (Option.some Jvm.ClassFile.FieldType.int)) R_X11_rated (gPc n0 D cA [gA n0 0, gJ a, gJ b, gJ c, gJ d, gJ f] M sz) (gQi n0 D cA sz (fun z M1 => (-4 ≤ z ∧ z ≤ 39) ∧ gI sz M1 ∧ gC sz M1 ∧ gFr 1237940039285380274901221504 M M1 ∧ ((((¬ (0 ≤ a ∧ a < M 1 10) ∨ ¬ (0 ≤ b ∧ b ≤ 5)) ∧ z = -1) ∨ (¬ (¬ (0 ≤ a ∧ a < M 1 10) ∨ ¬ (0 ≤ b ∧ b ≤ 5)) ∧ (¬ (1 ≤ c ∧ c ≤ 9999) ∨ ¬ (-3000 ≤ d ∧ d ≤ M 1 15)) ∧ z = -2)) ∧ pSameX M M1 ∨ (¬ (¬ (0 ≤ a ∧ a < M 1 10) ∨ ¬ (0 ≤ b ∧ b ≤ 5)) ∧ ¬ (¬ (1 ≤ c ∧ c ≤ 9999) ∨ ¬ (-3000 ≤ d ∧ d ≤ M 1 15))) ∧ (pTellX 2 a b c d f z M M1)))) 0 0 (fun q => n0 ≤ q) := by
  refine gMetI [gA n0 0, gJ a, gJ b, gJ c, gJ d, gJ f] (by decide) (Nat.le_of_ble_eq_true rfl) ⟨rfl, rfl⟩ ?_
  intro p e s m args below meth cd Q X hq
  have X : gCx p s m args meth cd n0 D cA "ParishUnion" cX11_rated 6 := X
  show G p l e R_X11_rated s m args below meth cd n0 D cA 6 Q 0 0 M sz 0 [(0, gA n0 0), (1, gJ a), (2, gJ b), (3, gJ c), (4, gJ d), (5, gJ f)] []
  obtain ⟨v1, hv1, rv1⟩ := gRd I (by decide) (gsz hsz (by decide)) rc_1_10.1
  obtain ⟨v2, hv2, rv2⟩ := gRd I (by decide) (gsz hsz (by decide)) rc_1_15.1
  refine g_aload_n (n := 1) X 0 dX11_rated_0 rfl rfl rfl ?_
  refine g_iload_n (n := 2) X 1 dX11_rated_1 rfl rfl rfl ?_
  refine g_callVi (n := 5) (As := [gJ a]) (rest := []) (cs1 := 0) (ss1 := 0) X (s_X11_isPerson a (by omega) hsz I C ) okX11_isPerson kw_3_56 ⟨kw_3_58, kw_0_0⟩ ⟨rfl, rfl⟩ ⟨Nat.le_of_ble_eq_true rfl, Nat.le_of_ble_eq_true rfl⟩ rfl (by decide) (gsz hsz (by decide)) lay_0 rfl rfl (Nat.le_of_ble_eq_true rfl) ⟨Nat.le_of_ble_eq_true rfl, Nat.le_of_ble_eq_true rfl⟩ rfl rfl dX11_rated_2 rfl (fun v3 M4 P5 => ?_)
  obtain ⟨rfl, rv3, xv3⟩ := P5
  refine g_if_eq (n := 8) (tgt := 15) X dX11_rated_5 (by decide) (by omega) rfl (fun c6 => ?_) (fun c6 => ?_)
  · refine g_iconst (n := 16) X dX11_rated_15 rfl ?_
    exact hq _ _ _ _ dX11_rated_16 ⟨by omega, I, C, gFr.rf, Or.inl ⟨by omega, pSameX.rf⟩⟩
  · refine g_iload_n (n := 9) X 2 dX11_rated_8 rfl rfl rfl ?_
    refine g_callSi (n := 12) (As := [gJ b]) (rest := []) (cs1 := 0) (ss1 := 0) X (s_X11_isParish b (by omega) hsz I C ) okX11_isParish kw_3_26 kw_3_27 ⟨rfl, rfl⟩ ⟨Nat.le_of_ble_eq_true rfl, Nat.le_of_ble_eq_true rfl⟩ rfl rfl (Nat.le_of_ble_eq_true rfl) ⟨Nat.le_of_ble_eq_true rfl, Nat.le_of_ble_eq_true rfl⟩ rfl rfl dX11_rated_9 rfl (fun v7 M8 P9 => ?_)
    obtain ⟨rfl, rv7, xv7⟩ := P9
    refine g_if_ne (n := 15) (tgt := 17) X dX11_rated_12 (by decide) (by omega) rfl (fun c10 => ?_) (fun c10 => ?_)
    · refine g_iload_n (n := 18) X 3 dX11_rated_17 rfl rfl rfl ?_
      refine g_iconst (n := 19) X dX11_rated_18 rfl ?_
      refine g_sipush (n := 22) X dX11_rated_19 (by decide +kernel) rfl ?_
      refine g_callSi (n := 25) (As := [gJ c, gJ 1, gJ 9999]) (rest := []) (cs1 := 0) (ss1 := 0) X (s_X11_within c (by omega) 1 (by omega) 9999 (by omega) hsz I C ) okX11_within kw_3_29 kw_3_30 ⟨rfl, rfl⟩ ⟨Nat.le_of_ble_eq_true rfl, Nat.le_of_ble_eq_true rfl⟩ rfl rfl (Nat.le_of_ble_eq_true rfl) ⟨Nat.le_of_ble_eq_true rfl, Nat.le_of_ble_eq_true rfl⟩ rfl rfl dX11_rated_22 rfl (fun v11 M12 P13 => ?_)
      obtain ⟨rfl, rv11, xv11⟩ := P13
      refine g_if_eq (n := 28) (tgt := 46) X dX11_rated_25 (by decide) (by omega) rfl (fun c14 => ?_) (fun c14 => ?_)
      · refine g_bipush (n := 48) X dX11_rated_46 (by decide +kernel) rfl ?_
        exact hq _ _ _ _ dX11_rated_48 ⟨by omega, I, C, gFr.rf, Or.inl ⟨by omega, pSameX.rf⟩⟩
      · refine g_iload (n := 30) X 4 dX11_rated_28 rfl rfl ?_
        refine g_sipush (n := 33) X dX11_rated_30 (by decide +kernel) rfl ?_
        refine g_aload_n (n := 34) X 0 dX11_rated_33 rfl rfl rfl ?_
        refine gg_11_0 (n := 37) (z := 1) X (by decide) (gsz hsz (by decide)) lay_0 kw_2_231 dX11_rated_34 rfl (rf_0_0 I (gsz hsz (by decide))) (by decide) ?_
        refine gg_9_15 (n := 40) (z := v2) X (by decide) (gsz hsz (by decide)) lay_1 kw_2_139 dX11_rated_37 rfl hv2 ?_
        refine g_callSi (n := 43) (As := [gJ d, gJ (-3000), gJ v2]) (rest := []) (cs1 := 0) (ss1 := 0) X (s_X11_within d (by omega) (-3000) (by omega) v2 (by omega) hsz I C ) okX11_within kw_3_29 kw_3_30 ⟨rfl, rfl⟩ ⟨Nat.le_of_ble_eq_true rfl, Nat.le_of_ble_eq_true rfl⟩ rfl rfl (Nat.le_of_ble_eq_true rfl) ⟨Nat.le_of_ble_eq_true rfl, Nat.le_of_ble_eq_true rfl⟩ rfl rfl dX11_rated_40 rfl (fun v15 M16 P17 => ?_)
        obtain ⟨rfl, rv15, xv15⟩ := P17
        refine g_if_ne (n := 46) (tgt := 49) X dX11_rated_43 (by decide) (by omega) rfl (fun c18 => ?_) (fun c18 => ?_)
        · refine g_aload_n (n := 50) X 0 dX11_rated_49 rfl rfl rfl ?_
          refine gg_11_0 (n := 53) (z := 1) X (by decide) (gsz hsz (by decide)) lay_0 kw_2_231 dX11_rated_50 rfl (rf_0_0 I (gsz hsz (by decide))) (by decide) ?_
          refine g_iconst (n := 54) X dX11_rated_53 rfl ?_
          refine g_iload_n (n := 55) X 1 dX11_rated_54 rfl rfl rfl ?_
          refine g_iload_n (n := 56) X 2 dX11_rated_55 rfl rfl rfl ?_
          refine g_iload_n (n := 57) X 3 dX11_rated_56 rfl rfl rfl ?_
          refine g_iload (n := 59) X 4 dX11_rated_57 rfl rfl ?_
          refine g_iload (n := 61) X 5 dX11_rated_59 rfl rfl ?_
          refine g_callVi (n := 64) (As := [gJ 2, gJ a, gJ b, gJ c, gJ d, gJ f]) (rest := []) (cs1 := 0) (ss1 := 0) X (s_X9_tellRight 2 (by omega) a (by omega) b (by omega) c (by omega) d (by omega) f (by omega) hsz I C (by omega)) okX9_tellRight kw_3_76 ⟨kw_3_77, kw_3_78⟩ ⟨rfl, rfl⟩ ⟨Nat.le_of_ble_eq_true rfl, Nat.le_of_ble_eq_true rfl⟩ rfl (by decide) (gsz hsz (by decide)) lay_1 rfl rfl (Nat.le_of_ble_eq_true rfl) ⟨Nat.le_of_ble_eq_true rfl, Nat.le_of_ble_eq_true rfl⟩ rfl rfl dX11_rated_61 rfl (fun v19 M20 P21 => ?_)
          obtain ⟨rv19, IM20, CM20, FM20, xM20⟩ := P21
          exact hq _ _ _ _ dX11_rated_64 ⟨by omega, IM20, CM20, (gFr.c gFr.rf FM20 rfl), Or.inr ⟨⟨by omega, by omega⟩, xM20⟩⟩
        · refine g_bipush (n := 48) X dX11_rated_46 (by decide +kernel) rfl ?_
          exact hq _ _ _ _ dX11_rated_48 ⟨by omega, I, C, gFr.rf, Or.inl ⟨by omega, pSameX.rf⟩⟩
    · refine g_iconst (n := 16) X dX11_rated_15 rfl ?_
      exact hq _ _ _ _ dX11_rated_16 ⟨by omega, I, C, gFr.rf, Or.inl ⟨by omega, pSameX.rf⟩⟩
theorem dX11_wed_0 : decode cX11_wed 0 = .ok (.aload_n 0, 1) := dc_42 (by decide +kernel)
theorem dX11_wed_1 : decode cX11_wed 1 = .ok (.iload_n 1, 1) := dc_27 (by decide +kernel)
theorem dX11_wed_2 : decode cX11_wed 2 = .ok (.invokevirtual 82, 3) := dc_182 0 82 (by decide +kernel)
theorem dX11_wed_5 : decode cX11_wed 5 = .ok (.ifCond .eq 11, 3) := dc_153 0 11 11 (by decide +kernel)
theorem dX11_wed_16 : decode cX11_wed 16 = .ok (.iconst (-1), 1) := dc_2 (by decide +kernel)
theorem dX11_wed_17 : decode cX11_wed 17 = .ok (.ireturn, 1) := dc_172 (by decide +kernel)
theorem dX11_wed_8 : decode cX11_wed 8 = .ok (.aload_n 0, 1) := dc_42 (by decide +kernel)
theorem dX11_wed_9 : decode cX11_wed 9 = .ok (.iload_n 2, 1) := dc_28 (by decide +kernel)
theorem dX11_wed_10 : decode cX11_wed 10 = .ok (.invokevirtual 82, 3) := dc_182 0 82 (by decide +kernel)
theorem dX11_wed_13 : decode cX11_wed 13 = .ok (.ifCond .ne 5, 3) := dc_154 0 5 5 (by decide +kernel)
theorem dX11_wed_18 : decode cX11_wed 18 = .ok (.aload_n 0, 1) := dc_42 (by decide +kernel)
theorem dX11_wed_19 : decode cX11_wed 19 = .ok (.getfield 10, 3) := dc_180 0 10 (by decide +kernel)
theorem dX11_wed_22 : decode cX11_wed 22 = .ok (.getfield 89, 3) := dc_180 0 89 (by decide +kernel)
theorem dX11_wed_25 : decode cX11_wed 25 = .ok (.iload_n 1, 1) := dc_27 (by decide +kernel)
theorem dX11_wed_26 : decode cX11_wed 26 = .ok (.aaload, 1) := dc_50 (by decide +kernel)
theorem dX11_wed_27 : decode cX11_wed 27 = .ok (.getfield 92, 3) := dc_180 0 92 (by decide +kernel)
theorem dX11_wed_30 : decode cX11_wed 30 = .ok (.iconst 1, 1) := dc_4 (by decide +kernel)
theorem dX11_wed_31 : decode cX11_wed 31 = .ok (.if_icmp .ne 18, 3) := dc_160 0 18 18 (by decide +kernel)
theorem dX11_wed_49 : decode cX11_wed 49 = .ok (.bipush (-2), 2) := dc_16 254 (-2) (by decide +kernel)
theorem dX11_wed_51 : decode cX11_wed 51 = .ok (.ireturn, 1) := dc_172 (by decide +kernel)
theorem dX11_wed_34 : decode cX11_wed 34 = .ok (.aload_n 0, 1) := dc_42 (by decide +kernel)
theorem dX11_wed_35 : decode cX11_wed 35 = .ok (.getfield 10, 3) := dc_180 0 10 (by decide +kernel)
theorem dX11_wed_38 : decode cX11_wed 38 = .ok (.getfield 89, 3) := dc_180 0 89 (by decide +kernel)
theorem dX11_wed_41 : decode cX11_wed 41 = .ok (.iload_n 2, 1) := dc_28 (by decide +kernel)
theorem dX11_wed_42 : decode cX11_wed 42 = .ok (.aaload, 1) := dc_50 (by decide +kernel)
theorem dX11_wed_43 : decode cX11_wed 43 = .ok (.getfield 92, 3) := dc_180 0 92 (by decide +kernel)
theorem dX11_wed_46 : decode cX11_wed 46 = .ok (.ifCond .eq 6, 3) := dc_153 0 6 6 (by decide +kernel)
theorem dX11_wed_52 : decode cX11_wed 52 = .ok (.iload_n 3, 1) := dc_29 (by decide +kernel)
theorem dX11_wed_53 : decode cX11_wed 53 = .ok (.sipush (-3000), 3) := dc_17 244 72 (-3000) (by decide +kernel)
theorem dX11_wed_56 : decode cX11_wed 56 = .ok (.aload_n 0, 1) := dc_42 (by decide +kernel)
theorem dX11_wed_57 : decode cX11_wed 57 = .ok (.getfield 10, 3) := dc_180 0 10 (by decide +kernel)
theorem dX11_wed_60 : decode cX11_wed 60 = .ok (.getfield 85, 3) := dc_180 0 85 (by decide +kernel)
theorem dX11_wed_63 : decode cX11_wed 63 = .ok (.invokestatic 62, 3) := dc_184 0 62 (by decide +kernel)
theorem dX11_wed_66 : decode cX11_wed 66 = .ok (.ifCond .ne 6, 3) := dc_154 0 6 6 (by decide +kernel)
theorem dX11_wed_72 : decode cX11_wed 72 = .ok (.aload_n 0, 1) := dc_42 (by decide +kernel)
theorem dX11_wed_73 : decode cX11_wed 73 = .ok (.getfield 10, 3) := dc_180 0 10 (by decide +kernel)
theorem dX11_wed_76 : decode cX11_wed 76 = .ok (.iconst 3, 1) := dc_6 (by decide +kernel)
theorem dX11_wed_77 : decode cX11_wed 77 = .ok (.iload_n 1, 1) := dc_27 (by decide +kernel)
theorem dX11_wed_78 : decode cX11_wed 78 = .ok (.iload_n 2, 1) := dc_28 (by decide +kernel)
theorem dX11_wed_79 : decode cX11_wed 79 = .ok (.iconst 0, 1) := dc_3 (by decide +kernel)
theorem dX11_wed_80 : decode cX11_wed 80 = .ok (.iload_n 3, 1) := dc_29 (by decide +kernel)
theorem dX11_wed_81 : decode cX11_wed 81 = .ok (.iload 4, 2) := dc_21 4 (by decide +kernel)
theorem dX11_wed_83 : decode cX11_wed 83 = .ok (.invokevirtual 132, 3) := dc_182 0 132 (by decide +kernel)
theorem dX11_wed_86 : decode cX11_wed 86 = .ok (.ireturn, 1) := dc_172 (by decide +kernel)
theorem dX11_wed_69 : decode cX11_wed 69 = .ok (.bipush (-2), 2) := dc_16 254 (-2) (by decide +kernel)
theorem dX11_wed_71 : decode cX11_wed 71 = .ok (.ireturn, 1) := dc_172 (by decide +kernel)
abbrev R_X11_wed : Room := { frames := 2, cells := 0, slots := 0, locals := 52 }
set_option maxRecDepth 100000 in
set_option maxHeartbeats 4000000 in
theorem s_X11_wed {l : Launch} {n0 : Nat} {D : va_G} {cA : Nat → ClassId} {M : gM} (a : Int) (r_a : -2147483648 ≤ a ∧ a ≤ 2147483647) (b : Int) (r_b : -2147483648 ≤ b ∧ b ≤ 2147483647) (c : Int) (r_c : -2147483648 ≤ c ∧ c ≤ 2147483647) (d : Int) (r_d : 0 ≤ d ∧ d ≤ 1) {sz : Nat} (hsz : 206 ≤ sz) (I : gI sz M) (C : gC sz M)   : Met l yX11_wed (gWsOf yX11_wed cX11_wed 5 (Option.some Jvm.ClassFile.FieldType.int)) R_X11_wed (gPc n0 D cA [gA n0 0, gJ a, gJ b, gJ c, gJ d] M sz) (gQi n0 D cA sz (fun z M1 => (-4 ≤ z ∧ z ≤ 39) ∧ gI sz M1 ∧ gC sz M1 ∧ gFr 1237940039285380274901221504 M M1 ∧ ((((¬ (0 ≤ a ∧ a < M 1 10) ∨ ¬ (0 ≤ b ∧ b < M 1 10)) ∧ z = -1) ∨ (¬ (¬ (0 ≤ a ∧ a < M 1 10) ∨ ¬ (0 ≤ b ∧ b < M 1 10)) ∧ (¬ M (31 + a) 0 = 1 ∨ ¬ M (31 + b) 0 = 0 ∨ ¬ (-3000 ≤ c ∧ c ≤ M 1 15)) ∧ z = -2)) ∧ pSameX M M1 ∨ (¬ (¬ (0 ≤ a ∧ a < M 1 10) ∨ ¬ (0 ≤ b ∧ b < M 1 10)) ∧ ¬ (¬ M (31 + a) 0 = 1 ∨ ¬ M (31 + b) 0 = 0 ∨ ¬ (-3000 ≤ c ∧ c ≤ M 1 15))) ∧ (pTellX 3 a b 0 c d z M M1)))) 0 0 (fun q => n0 ≤ q) := by
  refine gMetI [gA n0 0, gJ a, gJ b, gJ c, gJ d] (by decide) (Nat.le_of_ble_eq_true rfl) ⟨rfl, rfl⟩ ?_
  intro p e s m args below meth cd Q X hq
  have X : gCx p s m args meth cd n0 D cA "ParishUnion" cX11_wed 5 := X
  show G p l e R_X11_wed s m args below meth cd n0 D cA 5 Q 0 0 M sz 0 [(0, gA n0 0), (1, gJ a), (2, gJ b), (3, gJ c), (4, gJ d)] []
  obtain ⟨v1, hv1, rv1⟩ := gRd I (by decide) (gsz hsz (by decide)) rc_1_10.1
  obtain ⟨v2, hv2, rv2⟩ := gRd I (by decide) (gsz hsz (by decide)) rc_1_15.1
  refine g_aload_n (n := 1) X 0 dX11_wed_0 rfl rfl rfl ?_
  refine g_iload_n (n := 2) X 1 dX11_wed_1 rfl rfl rfl ?_
  refine g_callVi (n := 5) (As := [gJ a]) (rest := []) (cs1 := 0) (ss1 := 0) X (s_X11_isPerson a (by omega) hsz I C ) okX11_isPerson kw_3_56 ⟨kw_3_58, kw_0_0⟩ ⟨rfl, rfl⟩ ⟨Nat.le_of_ble_eq_true rfl, Nat.le_of_ble_eq_true rfl⟩ rfl (by decide) (gsz hsz (by decide)) lay_0 rfl rfl (Nat.le_of_ble_eq_true rfl) ⟨Nat.le_of_ble_eq_true rfl, Nat.le_of_ble_eq_true rfl⟩ rfl rfl dX11_wed_2 rfl (fun v3 M4 P5 => ?_)
  obtain ⟨rfl, rv3, xv3⟩ := P5
  refine g_if_eq (n := 8) (tgt := 16) X dX11_wed_5 (by decide) (by omega) rfl (fun c6 => ?_) (fun c6 => ?_)
  · refine g_iconst (n := 17) X dX11_wed_16 rfl ?_
    exact hq _ _ _ _ dX11_wed_17 ⟨by omega, I, C, gFr.rf, Or.inl ⟨by omega, pSameX.rf⟩⟩
  · refine g_aload_n (n := 9) X 0 dX11_wed_8 rfl rfl rfl ?_
    refine g_iload_n (n := 10) X 2 dX11_wed_9 rfl rfl rfl ?_
    refine g_callVi (n := 13) (As := [gJ b]) (rest := []) (cs1 := 0) (ss1 := 0) X (s_X11_isPerson b (by omega) hsz I C ) okX11_isPerson kw_3_56 ⟨kw_3_58, kw_0_0⟩ ⟨rfl, rfl⟩ ⟨Nat.le_of_ble_eq_true rfl, Nat.le_of_ble_eq_true rfl⟩ rfl (by decide) (gsz hsz (by decide)) lay_0 rfl rfl (Nat.le_of_ble_eq_true rfl) ⟨Nat.le_of_ble_eq_true rfl, Nat.le_of_ble_eq_true rfl⟩ rfl rfl dX11_wed_10 rfl (fun v7 M8 P9 => ?_)
    obtain ⟨rfl, rv7, xv7⟩ := P9
    refine g_if_ne (n := 16) (tgt := 18) X dX11_wed_13 (by decide) (by omega) rfl (fun c10 => ?_) (fun c10 => ?_)
    · refine g_aload_n (n := 19) X 0 dX11_wed_18 rfl rfl rfl ?_
      refine gg_11_0 (n := 22) (z := 1) X (by decide) (gsz hsz (by decide)) lay_0 kw_2_231 dX11_wed_19 rfl (rf_0_0 I (gsz hsz (by decide))) (by decide) ?_
      refine gg_9_1 (n := 25) (z := 5) X (by decide) (gsz hsz (by decide)) lay_1 kw_2_108 dX11_wed_22 rfl (rf_1_1 I (gsz hsz (by decide))) (by decide) ?_
      refine g_iload_n (n := 26) X 1 dX11_wed_25 rfl rfl rfl ?_
      obtain ⟨o11, ho11, ro11⟩ : ∃ o : Int, o = 31 + a ∧ (31 ≤ o ∧ o < 47) := ⟨_, rfl, by omega⟩
      refine g_aald6 (n := 27) (t := o11) X (by decide) (gsz hsz (by decide)) lay_5 (by omega) (by omega) (by decide) (gA5 I hsz (by omega) (by omega) (by omega)) (by omega) dX11_wed_26 rfl ?_
      obtain ⟨v12, hv12, rv12⟩ := gRd I (Po0 ro11) (Posz hsz ro11) (rP_0 ro11).1
      refine gg_6_0 (n := 30) (z := v12) X (Po0 ro11) (Posz hsz ro11) (lay2_P ro11) kw_1_176 dX11_wed_27 rfl hv12 ?_
      refine g_iconst (n := 31) X dX11_wed_30 rfl ?_
      refine g_icmp_ne (n := 34) (tgt := 49) X dX11_wed_31 (by decide) (by omega) (by omega) rfl (fun c13 => ?_) (fun c13 => ?_)
      · refine g_bipush (n := 51) X dX11_wed_49 (by decide +kernel) rfl ?_
        have qf0 : M (31 + a) 0 = v12 := by rw [← ho11]; exact hv12
        exact hq _ _ _ _ dX11_wed_51 ⟨by omega, I, C, gFr.rf, Or.inl ⟨by omega, pSameX.rf⟩⟩
      · refine g_aload_n (n := 35) X 0 dX11_wed_34 rfl rfl rfl ?_
        refine gg_11_0 (n := 38) (z := 1) X (by decide) (gsz hsz (by decide)) lay_0 kw_2_231 dX11_wed_35 rfl (rf_0_0 I (gsz hsz (by decide))) (by decide) ?_
        refine gg_9_1 (n := 41) (z := 5) X (by decide) (gsz hsz (by decide)) lay_1 kw_2_108 dX11_wed_38 rfl (rf_1_1 I (gsz hsz (by decide))) (by decide) ?_
        refine g_iload_n (n := 42) X 2 dX11_wed_41 rfl rfl rfl ?_
        obtain ⟨o14, ho14, ro14⟩ : ∃ o : Int, o = 31 + b ∧ (31 ≤ o ∧ o < 47) := ⟨_, rfl, by omega⟩
        refine g_aald6 (n := 43) (t := o14) X (by decide) (gsz hsz (by decide)) lay_5 (by omega) (by omega) (by decide) (gA5 I hsz (by omega) (by omega) (by omega)) (by omega) dX11_wed_42 rfl ?_
        obtain ⟨v15, hv15, rv15⟩ := gRd I (Po0 ro14) (Posz hsz ro14) (rP_0 ro14).1
        refine gg_6_0 (n := 46) (z := v15) X (Po0 ro14) (Posz hsz ro14) (lay2_P ro14) kw_1_176 dX11_wed_43 rfl hv15 ?_
        refine g_if_eq (n := 49) (tgt := 52) X dX11_wed_46 (by decide) (by omega) rfl (fun c16 => ?_) (fun c16 => ?_)
        · refine g_iload_n (n := 53) X 3 dX11_wed_52 rfl rfl rfl ?_
          refine g_sipush (n := 56) X dX11_wed_53 (by decide +kernel) rfl ?_
          refine g_aload_n (n := 57) X 0 dX11_wed_56 rfl rfl rfl ?_
          refine gg_11_0 (n := 60) (z := 1) X (by decide) (gsz hsz (by decide)) lay_0 kw_2_231 dX11_wed_57 rfl (rf_0_0 I (gsz hsz (by decide))) (by decide) ?_
          refine gg_9_15 (n := 63) (z := v2) X (by decide) (gsz hsz (by decide)) lay_1 kw_2_139 dX11_wed_60 rfl hv2 ?_
          refine g_callSi (n := 66) (As := [gJ c, gJ (-3000), gJ v2]) (rest := []) (cs1 := 0) (ss1 := 0) X (s_X11_within c (by omega) (-3000) (by omega) v2 (by omega) hsz I C ) okX11_within kw_3_29 kw_3_30 ⟨rfl, rfl⟩ ⟨Nat.le_of_ble_eq_true rfl, Nat.le_of_ble_eq_true rfl⟩ rfl rfl (Nat.le_of_ble_eq_true rfl) ⟨Nat.le_of_ble_eq_true rfl, Nat.le_of_ble_eq_true rfl⟩ rfl rfl dX11_wed_63 rfl (fun v17 M18 P19 => ?_)
          obtain ⟨rfl, rv17, xv17⟩ := P19
          refine g_if_ne (n := 69) (tgt := 72) X dX11_wed_66 (by decide) (by omega) rfl (fun c20 => ?_) (fun c20 => ?_)
          · refine g_aload_n (n := 73) X 0 dX11_wed_72 rfl rfl rfl ?_
            refine gg_11_0 (n := 76) (z := 1) X (by decide) (gsz hsz (by decide)) lay_0 kw_2_231 dX11_wed_73 rfl (rf_0_0 I (gsz hsz (by decide))) (by decide) ?_
            refine g_iconst (n := 77) X dX11_wed_76 rfl ?_
            refine g_iload_n (n := 78) X 1 dX11_wed_77 rfl rfl rfl ?_
            refine g_iload_n (n := 79) X 2 dX11_wed_78 rfl rfl rfl ?_
            refine g_iconst (n := 80) X dX11_wed_79 rfl ?_
            refine g_iload_n (n := 81) X 3 dX11_wed_80 rfl rfl rfl ?_
            refine g_iload (n := 83) X 4 dX11_wed_81 rfl rfl ?_
            refine g_callVi (n := 86) (As := [gJ 3, gJ a, gJ b, gJ 0, gJ c, gJ d]) (rest := []) (cs1 := 0) (ss1 := 0) X (s_X9_tellRight 3 (by omega) a (by omega) b (by omega) 0 (by omega) c (by omega) d (by omega) hsz I C (by omega)) okX9_tellRight kw_3_76 ⟨kw_3_77, kw_3_78⟩ ⟨rfl, rfl⟩ ⟨Nat.le_of_ble_eq_true rfl, Nat.le_of_ble_eq_true rfl⟩ rfl (by decide) (gsz hsz (by decide)) lay_1 rfl rfl (Nat.le_of_ble_eq_true rfl) ⟨Nat.le_of_ble_eq_true rfl, Nat.le_of_ble_eq_true rfl⟩ rfl rfl dX11_wed_83 rfl (fun v21 M22 P23 => ?_)
            obtain ⟨rv21, IM22, CM22, FM22, xM22⟩ := P23
            have qf0 : M (31 + a) 0 = v12 := by rw [← ho11]; exact hv12
            have qf1 : M (31 + b) 0 = v15 := by rw [← ho14]; exact hv15
            exact hq _ _ _ _ dX11_wed_86 ⟨by omega, IM22, CM22, (gFr.c gFr.rf FM22 rfl), Or.inr ⟨⟨by omega, by omega⟩, xM22⟩⟩
          · refine g_bipush (n := 71) X dX11_wed_69 (by decide +kernel) rfl ?_
            have qf0 : M (31 + a) 0 = v12 := by rw [← ho11]; exact hv12
            have qf1 : M (31 + b) 0 = v15 := by rw [← ho14]; exact hv15
            exact hq _ _ _ _ dX11_wed_71 ⟨by omega, I, C, gFr.rf, Or.inl ⟨by omega, pSameX.rf⟩⟩
        · refine g_bipush (n := 51) X dX11_wed_49 (by decide +kernel) rfl ?_
          have qf0 : M (31 + a) 0 = v12 := by rw [← ho11]; exact hv12
          have qf1 : M (31 + b) 0 = v15 := by rw [← ho14]; exact hv15
          exact hq _ _ _ _ dX11_wed_51 ⟨by omega, I, C, gFr.rf, Or.inl ⟨by omega, pSameX.rf⟩⟩
    · refine g_iconst (n := 17) X dX11_wed_16 rfl ?_
      exact hq _ _ _ _ dX11_wed_17 ⟨by omega, I, C, gFr.rf, Or.inl ⟨by omega, pSameX.rf⟩⟩
theorem dX11_proof_0 : decode cX11_proof 0 = .ok (.aload_n 0, 1) := dc_42 (by decide +kernel)
theorem dX11_proof_1 : decode cX11_proof 1 = .ok (.iload_n 1, 1) := dc_27 (by decide +kernel)
theorem dX11_proof_2 : decode cX11_proof 2 = .ok (.invokevirtual 136, 3) := dc_182 0 136 (by decide +kernel)
theorem kw_3_96 : (Jvm.Cond.methodLink "ParishUnion" (136 : Nat) ({ cls := "ParishUnion", name := "isRight", desc := "(I)Z" } : Jvm.MethodName)) ∈ gT := gT_of (tb_3 _ (List.mem_of_getElem? (i := 96) rfl)) rfl
theorem kw_3_99 : (Jvm.Cond.code ({ cls := "ParishUnion", name := "isRight", desc := "(I)Z" } : Jvm.MethodName) prog_1_method_52_code (2 : Nat) (Option.some Jvm.ClassFile.FieldType.boolean)) ∈ gT := gT_of (tb_3 _ (List.mem_of_getElem? (i := 99) rfl)) rfl
theorem okX11_isRight : gQok yX11_isRight cX11_isRight 2 (Option.some Jvm.ClassFile.FieldType.boolean) 1 := ⟨kw_3_99, kw_1_1, by decide +kernel, by decide +kernel, by decide +kernel⟩
theorem kw_3_98 : (Jvm.Cond.instanceMethod ({ cls := "ParishUnion", name := "isRight", desc := "(I)Z" } : Jvm.MethodName)) ∈ gT := gT_of (tb_3 _ (List.mem_of_getElem? (i := 98) rfl)) rfl
theorem kw_0_1 : (Jvm.Cond.selects "ParishUnion" ({ cls := "ParishUnion", name := "isRight", desc := "(I)Z" } : Jvm.MethodName) ({ cls := "ParishUnion", name := "isRight", desc := "(I)Z" } : Jvm.MethodName)) ∈ gT := gT_of (tb_0 _ (List.mem_of_getElem? (i := 1) rfl)) rfl
theorem dX11_proof_5 : decode cX11_proof 5 = .ok (.ifCond .ne 5, 3) := dc_154 0 5 5 (by decide +kernel)
theorem dX11_proof_10 : decode cX11_proof 10 = .ok (.aload_n 0, 1) := dc_42 (by decide +kernel)
theorem dX11_proof_11 : decode cX11_proof 11 = .ok (.getfield 10, 3) := dc_180 0 10 (by decide +kernel)
theorem dX11_proof_14 : decode cX11_proof 14 = .ok (.getfield 139, 3) := dc_180 0 139 (by decide +kernel)
theorem kw_2_111 : (Jvm.Cond.fieldLink "ParishUnion" (139 : Nat) "ParishUnion$Union" "rights" "[LParishUnion$Right;") ∈ gT := gT_of (tb_2 _ (List.mem_of_getElem? (i := 111) rfl)) rfl
theorem dX11_proof_17 : decode cX11_proof 17 = .ok (.iload_n 1, 1) := dc_27 (by decide +kernel)
theorem dX11_proof_18 : decode cX11_proof 18 = .ok (.aaload, 1) := dc_50 (by decide +kernel)
theorem dX11_proof_19 : decode cX11_proof 19 = .ok (.astore_n 3, 1) := dc_78 (by decide +kernel)
theorem dX11_proof_20 : decode cX11_proof 20 = .ok (.aload_n 3, 1) := dc_45 (by decide +kernel)
theorem dX11_proof_21 : decode cX11_proof 21 = .ok (.getfield 143, 3) := dc_180 0 143 (by decide +kernel)
theorem kw_2_44 : (Jvm.Cond.fieldLink "ParishUnion" (143 : Nat) "ParishUnion$Right" "proofEntry" "I") ∈ gT := gT_of (tb_2 _ (List.mem_of_getElem? (i := 44) rfl)) rfl
theorem dX11_proof_24 : decode cX11_proof 24 = .ok (.iconst (-1), 1) := dc_2 (by decide +kernel)
theorem dX11_proof_25 : decode cX11_proof 25 = .ok (.if_icmp .ne 14, 3) := dc_160 0 14 14 (by decide +kernel)
theorem dX11_proof_39 : decode cX11_proof 39 = .ok (.bipush (-3), 2) := dc_16 253 (-3) (by decide +kernel)
theorem dX11_proof_41 : decode cX11_proof 41 = .ok (.ireturn, 1) := dc_172 (by decide +kernel)
theorem dX11_proof_28 : decode cX11_proof 28 = .ok (.iload_n 2, 1) := dc_28 (by decide +kernel)
theorem dX11_proof_29 : decode cX11_proof 29 = .ok (.ifCond .eq 13, 3) := dc_153 0 13 13 (by decide +kernel)
theorem dX11_proof_42 : decode cX11_proof 42 = .ok (.aload_n 0, 1) := dc_42 (by decide +kernel)
theorem dX11_proof_43 : decode cX11_proof 43 = .ok (.getfield 10, 3) := dc_180 0 10 (by decide +kernel)
theorem dX11_proof_46 : decode cX11_proof 46 = .ok (.getfield 152, 3) := dc_180 0 152 (by decide +kernel)
theorem dX11_proof_49 : decode cX11_proof 49 = .ok (.bipush 80, 2) := dc_16 80 80 (by decide +kernel)
theorem dX11_proof_51 : decode cX11_proof 51 = .ok (.if_icmp .lt 6, 3) := dc_161 0 6 6 (by decide +kernel)
theorem dX11_proof_57 : decode cX11_proof 57 = .ok (.aload_n 3, 1) := dc_45 (by decide +kernel)
theorem dX11_proof_58 : decode cX11_proof 58 = .ok (.aload_n 0, 1) := dc_42 (by decide +kernel)
theorem dX11_proof_59 : decode cX11_proof 59 = .ok (.getfield 10, 3) := dc_180 0 10 (by decide +kernel)
theorem dX11_proof_62 : decode cX11_proof 62 = .ok (.getfield 152, 3) := dc_180 0 152 (by decide +kernel)
theorem dX11_proof_65 : decode cX11_proof 65 = .ok (.putfield 143, 3) := dc_181 0 143 (by decide +kernel)
theorem dX11_proof_68 : decode cX11_proof 68 = .ok (.aload_n 3, 1) := dc_45 (by decide +kernel)
theorem dX11_proof_69 : decode cX11_proof 69 = .ok (.iload_n 2, 1) := dc_28 (by decide +kernel)
theorem dX11_proof_70 : decode cX11_proof 70 = .ok (.putfield 155, 3) := dc_181 0 155 (by decide +kernel)
theorem kw_2_46 : (Jvm.Cond.fieldLink "ParishUnion" (155 : Nat) "ParishUnion$Right" "proved" "Z") ∈ gT := gT_of (tb_2 _ (List.mem_of_getElem? (i := 46) rfl)) rfl
theorem dX11_proof_73 : decode cX11_proof 73 = .ok (.aload_n 0, 1) := dc_42 (by decide +kernel)
theorem dX11_proof_74 : decode cX11_proof 74 = .ok (.getfield 10, 3) := dc_180 0 10 (by decide +kernel)
theorem dX11_proof_77 : decode cX11_proof 77 = .ok (.dup, 1) := dc_89 (by decide +kernel)
theorem dX11_proof_78 : decode cX11_proof 78 = .ok (.getfield 152, 3) := dc_180 0 152 (by decide +kernel)
theorem dX11_proof_81 : decode cX11_proof 81 = .ok (.iconst 1, 1) := dc_4 (by decide +kernel)
theorem dX11_proof_82 : decode cX11_proof 82 = .ok (.iadd, 1) := dc_96 (by decide +kernel)
theorem dX11_proof_83 : decode cX11_proof 83 = .ok (.putfield 152, 3) := dc_181 0 152 (by decide +kernel)
theorem dX11_proof_86 : decode cX11_proof 86 = .ok (.aload_n 0, 1) := dc_42 (by decide +kernel)
theorem dX11_proof_87 : decode cX11_proof 87 = .ok (.getfield 10, 3) := dc_180 0 10 (by decide +kernel)
theorem dX11_proof_90 : decode cX11_proof 90 = .ok (.getfield 152, 3) := dc_180 0 152 (by decide +kernel)
theorem dX11_proof_93 : decode cX11_proof 93 = .ok (.ireturn, 1) := dc_172 (by decide +kernel)
theorem dX11_proof_54 : decode cX11_proof 54 = .ok (.bipush (-4), 2) := dc_16 252 (-4) (by decide +kernel)
theorem dX11_proof_56 : decode cX11_proof 56 = .ok (.ireturn, 1) := dc_172 (by decide +kernel)
theorem dX11_proof_32 : decode cX11_proof 32 = .ok (.aload_n 3, 1) := dc_45 (by decide +kernel)
theorem dX11_proof_33 : decode cX11_proof 33 = .ok (.getfield 148, 3) := dc_180 0 148 (by decide +kernel)
theorem kw_2_40 : (Jvm.Cond.fieldLink "ParishUnion" (148 : Nat) "ParishUnion$Right" "sure" "Z") ∈ gT := gT_of (tb_2 _ (List.mem_of_getElem? (i := 40) rfl)) rfl
theorem dX11_proof_36 : decode cX11_proof 36 = .ok (.ifCond .eq 6, 3) := dc_153 0 6 6 (by decide +kernel)
theorem dX11_proof_8 : decode cX11_proof 8 = .ok (.iconst (-1), 1) := dc_2 (by decide +kernel)
theorem dX11_proof_9 : decode cX11_proof 9 = .ok (.ireturn, 1) := dc_172 (by decide +kernel)
abbrev R_X11_proof : Room := { frames := 2, cells := 0, slots := 0, locals := 43 }
set_option maxRecDepth 100000 in
set_option maxHeartbeats 4000000 in
theorem s_X11_proof {l : Launch} {n0 : Nat} {D : va_G} {cA : Nat → ClassId} {M : gM} (a : Int) (r_a : -2147483648 ≤ a ∧ a ≤ 2147483647) (b : Int) (r_b : 0 ≤ b ∧ b ≤ 1) {sz : Nat} (hsz : 206 ≤ sz) (I : gI sz M) (C : gC sz M)   : Met l yX11_proof (gWsOf yX11_proof cX11_proof 4 (Option.some Jvm.ClassFile.FieldType.int)) R_X11_proof (gPc n0 D cA [gA n0 0, gJ a, gJ b] M sz) (gQi n0 D cA sz (fun z M1 => (-4 ≤ z ∧ z ≤ 80) ∧ gI sz M1 ∧ gC sz M1 ∧ gFr 1237940039285380274899124352 M M1 ∧ ((((¬ (0 ≤ a ∧ a < M 1 11) ∧ z = -1) ∨ ((0 ≤ a ∧ a < M 1 11) ∧ (¬ M (47 + a) 7 = -1 ∨ (b = 1 ∧ M (47 + a) 5 = 1)) ∧ z = -3) ∨ ((0 ≤ a ∧ a < M 1 11) ∧ ¬ (¬ M (47 + a) 7 = -1 ∨ (b = 1 ∧ M (47 + a) 5 = 1)) ∧ M 1 12 = 80 ∧ z = -4)) ∧ pSameX M M1) ∨ (((0 ≤ a ∧ a < M 1 11) ∧ ¬ (¬ M (47 + a) 7 = -1 ∨ (b = 1 ∧ M (47 + a) 5 = 1)) ∧ M 1 12 < 80 ∧ z = M 1 12 + 1) ∧ M1 1 11 = M 1 11 ∧ M1 1 12 = M 1 12 + 1 ∧ (∀ r k : Int, 0 ≤ r → r < 40 → 0 ≤ k → k ≤ 8 → ¬ (r = a ∧ (k = 7 ∨ k = 8)) → M1 (47 + r) k = M (47 + r) k) ∧ M1 (47 + a) 7 = M 1 12 ∧ M1 (47 + a) 8 = b)))) 0 0 (fun q => n0 ≤ q) := by
  refine gMetI [gA n0 0, gJ a, gJ b] (by decide) (Nat.le_of_ble_eq_true rfl) ⟨rfl, rfl⟩ ?_
  intro p e s m args below meth cd Q X hq
  have X : gCx p s m args meth cd n0 D cA "ParishUnion" cX11_proof 4 := X
  show G p l e R_X11_proof s m args below meth cd n0 D cA 4 Q 0 0 M sz 0 [(0, gA n0 0), (1, gJ a), (2, gJ b)] []
  obtain ⟨v1, hv1, rv1⟩ := gRd I (by decide) (gsz hsz (by decide)) rc_1_11.1
  obtain ⟨v2, hv2, rv2⟩ := gRd I (by decide) (gsz hsz (by decide)) rc_1_12.1
  refine g_aload_n (n := 1) X 0 dX11_proof_0 rfl rfl rfl ?_
  refine g_iload_n (n := 2) X 1 dX11_proof_1 rfl rfl rfl ?_
  refine g_callVi (n := 5) (As := [gJ a]) (rest := []) (cs1 := 0) (ss1 := 0) X (s_X11_isRight a (by omega) hsz I C ) okX11_isRight kw_3_96 ⟨kw_3_98, kw_0_1⟩ ⟨rfl, rfl⟩ ⟨Nat.le_of_ble_eq_true rfl, Nat.le_of_ble_eq_true rfl⟩ rfl (by decide) (gsz hsz (by decide)) lay_0 rfl rfl (Nat.le_of_ble_eq_true rfl) ⟨Nat.le_of_ble_eq_true rfl, Nat.le_of_ble_eq_true rfl⟩ rfl rfl dX11_proof_2 rfl (fun v3 M4 P5 => ?_)
  obtain ⟨rfl, rv3, xv3⟩ := P5
  refine g_if_ne (n := 8) (tgt := 10) X dX11_proof_5 (by decide) (by omega) rfl (fun c6 => ?_) (fun c6 => ?_)
  · refine g_aload_n (n := 11) X 0 dX11_proof_10 rfl rfl rfl ?_
    refine gg_11_0 (n := 14) (z := 1) X (by decide) (gsz hsz (by decide)) lay_0 kw_2_231 dX11_proof_11 rfl (rf_0_0 I (gsz hsz (by decide))) (by decide) ?_
    refine gg_9_2 (n := 17) (z := 6) X (by decide) (gsz hsz (by decide)) lay_1 kw_2_111 dX11_proof_14 rfl (rf_1_2 I (gsz hsz (by decide))) (by decide) ?_
    refine g_iload_n (n := 18) X 1 dX11_proof_17 rfl rfl rfl ?_
    obtain ⟨o7, ho7, ro7⟩ : ∃ o : Int, o = 47 + a ∧ (47 ≤ o ∧ o < 87) := ⟨_, rfl, by omega⟩
    refine g_aald7 (n := 19) (t := o7) X (by decide) (gsz hsz (by decide)) lay_6 (by omega) (by omega) (by decide) (gA6 I hsz (by omega) (by omega) (by omega)) (by omega) dX11_proof_18 rfl ?_
    refine g_astore_n (n := 20) (L' := [(3, gA n0 o7), (0, gA n0 0), (1, gJ a), (2, gJ b)]) X dX11_proof_19 rfl (by decide) rfl rfl ?_
    refine g_aload_n (n := 21) X 0 dX11_proof_20 rfl rfl rfl ?_
    obtain ⟨v8, hv8, rv8⟩ := gRd I (Rto0 ro7) (Rtosz hsz ro7) (rR_7 ro7).1
    refine gg_8_7 (n := 24) (z := v8) X (Rto0 ro7) (Rtosz hsz ro7) (lay2_R ro7) kw_2_44 dX11_proof_21 rfl hv8 ?_
    refine g_iconst (n := 25) X dX11_proof_24 rfl ?_
    refine g_icmp_ne (n := 28) (tgt := 39) X dX11_proof_25 (by decide) (by omega) (by omega) rfl (fun c9 => ?_) (fun c9 => ?_)
    · refine g_bipush (n := 41) X dX11_proof_39 (by decide +kernel) rfl ?_
      have qf7 : M (47 + a) 7 = v8 := by rw [← ho7]; exact hv8
      exact hq _ _ _ _ dX11_proof_41 ⟨by omega, I, C, gFr.rf, Or.inl ⟨by omega, pSameX.rf⟩⟩
    · refine g_iload_n (n := 29) X 3 dX11_proof_28 rfl rfl rfl ?_
      refine g_if_eq (n := 32) (tgt := 42) X dX11_proof_29 (by decide) (by omega) rfl (fun c10 => ?_) (fun c10 => ?_)
      · refine g_aload_n (n := 43) X 1 dX11_proof_42 rfl rfl rfl ?_
        refine gg_11_0 (n := 46) (z := 1) X (by decide) (gsz hsz (by decide)) lay_0 kw_2_231 dX11_proof_43 rfl (rf_0_0 I (gsz hsz (by decide))) (by decide) ?_
        refine gg_9_12 (n := 49) (z := v2) X (by decide) (gsz hsz (by decide)) lay_1 kw_2_133 dX11_proof_46 rfl hv2 ?_
        refine g_bipush (n := 51) X dX11_proof_49 (by decide +kernel) rfl ?_
        refine g_icmp_lt (n := 54) (tgt := 57) X dX11_proof_51 (by decide) (by omega) (by omega) rfl (fun c11 => ?_) (fun c11 => ?_)
        · refine g_aload_n (n := 58) X 0 dX11_proof_57 rfl rfl rfl ?_
          refine g_aload_n (n := 59) X 1 dX11_proof_58 rfl rfl rfl ?_
          refine gg_11_0 (n := 62) (z := 1) X (by decide) (gsz hsz (by decide)) lay_0 kw_2_231 dX11_proof_59 rfl (rf_0_0 I (gsz hsz (by decide))) (by decide) ?_
          refine gg_9_12 (n := 65) (z := v2) X (by decide) (gsz hsz (by decide)) lay_1 kw_2_133 dX11_proof_62 rfl hv2 ?_
          refine gp_8_7 (n := 68) X (Rto0 ro7) (Rtosz hsz ro7) (lay2_R ro7) kw_2_44 dX11_proof_65 rfl ?_
          refine G.nm (fun M12 e13 => ?_)
          have IM12 : gI sz M12 := gI.set I (rR_7 ro7).1 (by omega) e13
          have CM12 : gC sz M12 := gC.set C (rR_7 ro7).2.1 e13
          refine g_aload_n (n := 69) X 0 dX11_proof_68 rfl rfl rfl ?_
          refine g_iload_n (n := 70) X 3 dX11_proof_69 rfl rfl rfl ?_
          refine gp_8_8 (n := 73) X (Rto0 ro7) (Rtosz hsz ro7) (lay2_R ro7) kw_2_46 (by omega) dX11_proof_70 rfl ?_
          refine G.nm (fun M14 e15 => ?_)
          have IM14 : gI sz M14 := gI.set IM12 (rR_8 ro7).1 (by omega) e15
          have CM14 : gC sz M14 := gC.set CM12 (rR_8 ro7).2.1 e15
          refine g_aload_n (n := 74) X 1 dX11_proof_73 rfl rfl rfl ?_
          refine gg_11_0 (n := 77) (z := 1) X (by decide) (gsz hsz (by decide)) lay_0 kw_2_231 dX11_proof_74 rfl (rf_0_0 IM14 (gsz hsz (by decide))) (by decide) ?_
          refine g_dup (n := 78) X dX11_proof_77 rfl rfl ?_
          refine gg_9_12 (n := 81) (z := v2) X (by decide) (gsz hsz (by decide)) lay_1 kw_2_133 dX11_proof_78 rfl ((congrFun (congrFun e15 _) _).trans ((gset_ne (by omega)).trans ((congrFun (congrFun e13 _) _).trans ((gset_ne (by omega)).trans hv2)))) ?_
          refine g_iconst (n := 82) X dX11_proof_81 rfl ?_
          refine g_iadd (n := 83) (z := v2 + 1) X dX11_proof_82 (by omega) rfl ?_
          refine gp_9_12 (n := 86) X (by decide) (gsz hsz (by decide)) lay_1 kw_2_133 dX11_proof_83 rfl ?_
          refine G.nm (fun M16 e17 => ?_)
          have IM16 : gI sz M16 := gI.set IM14 rc_1_12.1 (by omega) e17
          have CM16 : gC sz M16 := gC.set CM14 rc_1_12.2.1 e17
          refine g_aload_n (n := 87) X 1 dX11_proof_86 rfl rfl rfl ?_
          refine gg_11_0 (n := 90) (z := 1) X (by decide) (gsz hsz (by decide)) lay_0 kw_2_231 dX11_proof_87 rfl (rf_0_0 IM16 (gsz hsz (by decide))) (by decide) ?_
          refine gg_9_12 (n := 93) (z := v2 + 1) X (by decide) (gsz hsz (by decide)) lay_1 kw_2_133 dX11_proof_90 rfl ((congrFun (congrFun e17 _) _).trans (gset_eq _ _ _ _)) ?_
          have qf7 : M (47 + a) 7 = v8 := by rw [← ho7]; exact hv8
          exact hq _ _ _ _ dX11_proof_93 ⟨by omega, IM16, CM16, (gFr.s (gFr.s (gFr.s gFr.rf e13 (rR_7 ro7).2.2 rfl) e15 (rR_8 ro7).2.2 rfl) e17 rc_1_12.2.2 rfl), Or.inr ⟨⟨by omega, by omega, by omega, by omega⟩, (((congrFun (congrFun e17 _) _).trans ((gset_ne (by omega)).trans ((congrFun (congrFun e15 _) _).trans ((gset_ne (by omega)).trans ((congrFun (congrFun e13 _) _).trans ((gset_ne (by omega)).trans hv1)))))).trans hv1.symm), (by have q := ((congrFun (congrFun e17 _) _).trans (gset_eq _ _ _ _)); omega), (fun r k h0 h1 h2 h3 hp => ((congrFun (congrFun e17 _) _).trans ((gset_ne (by omega)).trans ((congrFun (congrFun e15 _) _).trans ((gset_ne (by omega)).trans ((congrFun (congrFun e13 _) _).trans ((gset_ne (by omega)).trans rfl))))))), (by rw [← ho7, hv2]; exact ((congrFun (congrFun e17 _) _).trans ((gset_ne (by omega)).trans ((congrFun (congrFun e15 _) _).trans ((gset_ne (by omega)).trans ((congrFun (congrFun e13 _) _).trans (gset_eq _ _ _ _))))))), (by rw [← ho7]; exact ((congrFun (congrFun e17 _) _).trans ((gset_ne (by omega)).trans ((congrFun (congrFun e15 _) _).trans (gset_eq _ _ _ _)))))⟩⟩
        · refine g_bipush (n := 56) X dX11_proof_54 (by decide +kernel) rfl ?_
          have qf7 : M (47 + a) 7 = v8 := by rw [← ho7]; exact hv8
          exact hq _ _ _ _ dX11_proof_56 ⟨by omega, I, C, gFr.rf, Or.inl ⟨by omega, pSameX.rf⟩⟩
      · refine g_aload_n (n := 33) X 0 dX11_proof_32 rfl rfl rfl ?_
        obtain ⟨v18, hv18, rv18⟩ := gRd I (Rto0 ro7) (Rtosz hsz ro7) (rR_5 ro7).1
        refine gg_8_5 (n := 36) (z := v18) X (Rto0 ro7) (Rtosz hsz ro7) (lay2_R ro7) kw_2_40 dX11_proof_33 rfl hv18 ?_
        refine g_if_eq (n := 39) (tgt := 42) X dX11_proof_36 (by decide) (by omega) rfl (fun c19 => ?_) (fun c19 => ?_)
        · refine g_aload_n (n := 43) X 1 dX11_proof_42 rfl rfl rfl ?_
          refine gg_11_0 (n := 46) (z := 1) X (by decide) (gsz hsz (by decide)) lay_0 kw_2_231 dX11_proof_43 rfl (rf_0_0 I (gsz hsz (by decide))) (by decide) ?_
          refine gg_9_12 (n := 49) (z := v2) X (by decide) (gsz hsz (by decide)) lay_1 kw_2_133 dX11_proof_46 rfl hv2 ?_
          refine g_bipush (n := 51) X dX11_proof_49 (by decide +kernel) rfl ?_
          refine g_icmp_lt (n := 54) (tgt := 57) X dX11_proof_51 (by decide) (by omega) (by omega) rfl (fun c20 => ?_) (fun c20 => ?_)
          · refine g_aload_n (n := 58) X 0 dX11_proof_57 rfl rfl rfl ?_
            refine g_aload_n (n := 59) X 1 dX11_proof_58 rfl rfl rfl ?_
            refine gg_11_0 (n := 62) (z := 1) X (by decide) (gsz hsz (by decide)) lay_0 kw_2_231 dX11_proof_59 rfl (rf_0_0 I (gsz hsz (by decide))) (by decide) ?_
            refine gg_9_12 (n := 65) (z := v2) X (by decide) (gsz hsz (by decide)) lay_1 kw_2_133 dX11_proof_62 rfl hv2 ?_
            refine gp_8_7 (n := 68) X (Rto0 ro7) (Rtosz hsz ro7) (lay2_R ro7) kw_2_44 dX11_proof_65 rfl ?_
            refine G.nm (fun M21 e22 => ?_)
            have IM21 : gI sz M21 := gI.set I (rR_7 ro7).1 (by omega) e22
            have CM21 : gC sz M21 := gC.set C (rR_7 ro7).2.1 e22
            refine g_aload_n (n := 69) X 0 dX11_proof_68 rfl rfl rfl ?_
            refine g_iload_n (n := 70) X 3 dX11_proof_69 rfl rfl rfl ?_
            refine gp_8_8 (n := 73) X (Rto0 ro7) (Rtosz hsz ro7) (lay2_R ro7) kw_2_46 (by omega) dX11_proof_70 rfl ?_
            refine G.nm (fun M23 e24 => ?_)
            have IM23 : gI sz M23 := gI.set IM21 (rR_8 ro7).1 (by omega) e24
            have CM23 : gC sz M23 := gC.set CM21 (rR_8 ro7).2.1 e24
            refine g_aload_n (n := 74) X 1 dX11_proof_73 rfl rfl rfl ?_
            refine gg_11_0 (n := 77) (z := 1) X (by decide) (gsz hsz (by decide)) lay_0 kw_2_231 dX11_proof_74 rfl (rf_0_0 IM23 (gsz hsz (by decide))) (by decide) ?_
            refine g_dup (n := 78) X dX11_proof_77 rfl rfl ?_
            refine gg_9_12 (n := 81) (z := v2) X (by decide) (gsz hsz (by decide)) lay_1 kw_2_133 dX11_proof_78 rfl ((congrFun (congrFun e24 _) _).trans ((gset_ne (by omega)).trans ((congrFun (congrFun e22 _) _).trans ((gset_ne (by omega)).trans hv2)))) ?_
            refine g_iconst (n := 82) X dX11_proof_81 rfl ?_
            refine g_iadd (n := 83) (z := v2 + 1) X dX11_proof_82 (by omega) rfl ?_
            refine gp_9_12 (n := 86) X (by decide) (gsz hsz (by decide)) lay_1 kw_2_133 dX11_proof_83 rfl ?_
            refine G.nm (fun M25 e26 => ?_)
            have IM25 : gI sz M25 := gI.set IM23 rc_1_12.1 (by omega) e26
            have CM25 : gC sz M25 := gC.set CM23 rc_1_12.2.1 e26
            refine g_aload_n (n := 87) X 1 dX11_proof_86 rfl rfl rfl ?_
            refine gg_11_0 (n := 90) (z := 1) X (by decide) (gsz hsz (by decide)) lay_0 kw_2_231 dX11_proof_87 rfl (rf_0_0 IM25 (gsz hsz (by decide))) (by decide) ?_
            refine gg_9_12 (n := 93) (z := v2 + 1) X (by decide) (gsz hsz (by decide)) lay_1 kw_2_133 dX11_proof_90 rfl ((congrFun (congrFun e26 _) _).trans (gset_eq _ _ _ _)) ?_
            have qf5 : M (47 + a) 5 = v18 := by rw [← ho7]; exact hv18
            have qf7 : M (47 + a) 7 = v8 := by rw [← ho7]; exact hv8
            exact hq _ _ _ _ dX11_proof_93 ⟨by omega, IM25, CM25, (gFr.s (gFr.s (gFr.s gFr.rf e22 (rR_7 ro7).2.2 rfl) e24 (rR_8 ro7).2.2 rfl) e26 rc_1_12.2.2 rfl), Or.inr ⟨⟨by omega, by omega, by omega, by omega⟩, (((congrFun (congrFun e26 _) _).trans ((gset_ne (by omega)).trans ((congrFun (congrFun e24 _) _).trans ((gset_ne (by omega)).trans ((congrFun (congrFun e22 _) _).trans ((gset_ne (by omega)).trans hv1)))))).trans hv1.symm), (by have q := ((congrFun (congrFun e26 _) _).trans (gset_eq _ _ _ _)); omega), (fun r k h0 h1 h2 h3 hp => ((congrFun (congrFun e26 _) _).trans ((gset_ne (by omega)).trans ((congrFun (congrFun e24 _) _).trans ((gset_ne (by omega)).trans ((congrFun (congrFun e22 _) _).trans ((gset_ne (by omega)).trans rfl))))))), (by rw [← ho7, hv2]; exact ((congrFun (congrFun e26 _) _).trans ((gset_ne (by omega)).trans ((congrFun (congrFun e24 _) _).trans ((gset_ne (by omega)).trans ((congrFun (congrFun e22 _) _).trans (gset_eq _ _ _ _))))))), (by rw [← ho7]; exact ((congrFun (congrFun e26 _) _).trans ((gset_ne (by omega)).trans ((congrFun (congrFun e24 _) _).trans (gset_eq _ _ _ _)))))⟩⟩
          · refine g_bipush (n := 56) X dX11_proof_54 (by decide +kernel) rfl ?_
            have qf5 : M (47 + a) 5 = v18 := by rw [← ho7]; exact hv18
            have qf7 : M (47 + a) 7 = v8 := by rw [← ho7]; exact hv8
            exact hq _ _ _ _ dX11_proof_56 ⟨by omega, I, C, gFr.rf, Or.inl ⟨by omega, pSameX.rf⟩⟩
        · refine g_bipush (n := 41) X dX11_proof_39 (by decide +kernel) rfl ?_
          have qf5 : M (47 + a) 5 = v18 := by rw [← ho7]; exact hv18
          have qf7 : M (47 + a) 7 = v8 := by rw [← ho7]; exact hv8
          exact hq _ _ _ _ dX11_proof_41 ⟨by omega, I, C, gFr.rf, Or.inl ⟨by omega, pSameX.rf⟩⟩
  · refine g_iconst (n := 9) X dX11_proof_8 rfl ?_
    exact hq _ _ _ _ dX11_proof_9 ⟨by omega, I, C, gFr.rf, Or.inl ⟨by omega, pSameX.rf⟩⟩
theorem dX11_right_0 : decode cX11_right 0 = .ok (.aload_n 0, 1) := dc_42 (by decide +kernel)
theorem dX11_right_1 : decode cX11_right 1 = .ok (.iload_n 1, 1) := dc_27 (by decide +kernel)
theorem dX11_right_2 : decode cX11_right 2 = .ok (.invokevirtual 136, 3) := dc_182 0 136 (by decide +kernel)
theorem dX11_right_5 : decode cX11_right 5 = .ok (.ifCond .ne 5, 3) := dc_154 0 5 5 (by decide +kernel)
theorem dX11_right_10 : decode cX11_right 10 = .ok (.aload_n 0, 1) := dc_42 (by decide +kernel)
theorem dX11_right_11 : decode cX11_right 11 = .ok (.getfield 10, 3) := dc_180 0 10 (by decide +kernel)
theorem dX11_right_14 : decode cX11_right 14 = .ok (.getfield 139, 3) := dc_180 0 139 (by decide +kernel)
theorem dX11_right_17 : decode cX11_right 17 = .ok (.iload_n 1, 1) := dc_27 (by decide +kernel)
theorem dX11_right_18 : decode cX11_right 18 = .ok (.aaload, 1) := dc_50 (by decide +kernel)
theorem dX11_right_19 : decode cX11_right 19 = .ok (.astore_n 3, 1) := dc_78 (by decide +kernel)
theorem dX11_right_20 : decode cX11_right 20 = .ok (.iload_n 2, 1) := dc_28 (by decide +kernel)
theorem dX11_right_21 : decode cX11_right 21 = .ok (.tableswitch 76 0 5 #[39, 44, 49, 54, 59, 64], 39) := by decide +kernel
theorem dX11_right_60 : decode cX11_right 60 = .ok (.aload_n 3, 1) := dc_45 (by decide +kernel)
theorem dX11_right_61 : decode cX11_right 61 = .ok (.getfield 158, 3) := dc_180 0 158 (by decide +kernel)
theorem kw_2_26 : (Jvm.Cond.fieldLink "ParishUnion" (158 : Nat) "ParishUnion$Right" "kind" "I") ∈ gT := gT_of (tb_2 _ (List.mem_of_getElem? (i := 26) rfl)) rfl
theorem dX11_right_64 : decode cX11_right 64 = .ok (.ireturn, 1) := dc_172 (by decide +kernel)
theorem dX11_right_65 : decode cX11_right 65 = .ok (.aload_n 3, 1) := dc_45 (by decide +kernel)
theorem dX11_right_66 : decode cX11_right 66 = .ok (.getfield 161, 3) := dc_180 0 161 (by decide +kernel)
theorem kw_2_29 : (Jvm.Cond.fieldLink "ParishUnion" (161 : Nat) "ParishUnion$Right" "person" "I") ∈ gT := gT_of (tb_2 _ (List.mem_of_getElem? (i := 29) rfl)) rfl
theorem dX11_right_69 : decode cX11_right 69 = .ok (.ireturn, 1) := dc_172 (by decide +kernel)
theorem dX11_right_70 : decode cX11_right 70 = .ok (.aload_n 3, 1) := dc_45 (by decide +kernel)
theorem dX11_right_71 : decode cX11_right 71 = .ok (.getfield 164, 3) := dc_180 0 164 (by decide +kernel)
theorem kw_2_32 : (Jvm.Cond.fieldLink "ParishUnion" (164 : Nat) "ParishUnion$Right" "place" "I") ∈ gT := gT_of (tb_2 _ (List.mem_of_getElem? (i := 32) rfl)) rfl
theorem dX11_right_74 : decode cX11_right 74 = .ok (.ireturn, 1) := dc_172 (by decide +kernel)
theorem dX11_right_75 : decode cX11_right 75 = .ok (.aload_n 3, 1) := dc_45 (by decide +kernel)
theorem dX11_right_76 : decode cX11_right 76 = .ok (.getfield 167, 3) := dc_180 0 167 (by decide +kernel)
theorem kw_2_34 : (Jvm.Cond.fieldLink "ParishUnion" (167 : Nat) "ParishUnion$Right" "n" "I") ∈ gT := gT_of (tb_2 _ (List.mem_of_getElem? (i := 34) rfl)) rfl
theorem dX11_right_79 : decode cX11_right 79 = .ok (.ireturn, 1) := dc_172 (by decide +kernel)
theorem dX11_right_80 : decode cX11_right 80 = .ok (.aload_n 3, 1) := dc_45 (by decide +kernel)
theorem dX11_right_81 : decode cX11_right 81 = .ok (.getfield 170, 3) := dc_180 0 170 (by decide +kernel)
theorem kw_2_37 : (Jvm.Cond.fieldLink "ParishUnion" (170 : Nat) "ParishUnion$Right" "week" "I") ∈ gT := gT_of (tb_2 _ (List.mem_of_getElem? (i := 37) rfl)) rfl
theorem dX11_right_84 : decode cX11_right 84 = .ok (.ireturn, 1) := dc_172 (by decide +kernel)
theorem dX11_right_85 : decode cX11_right 85 = .ok (.aload_n 3, 1) := dc_45 (by decide +kernel)
theorem dX11_right_86 : decode cX11_right 86 = .ok (.aload_n 0, 1) := dc_42 (by decide +kernel)
theorem dX11_right_87 : decode cX11_right 87 = .ok (.getfield 10, 3) := dc_180 0 10 (by decide +kernel)
theorem dX11_right_90 : decode cX11_right 90 = .ok (.getfield 152, 3) := dc_180 0 152 (by decide +kernel)
theorem dX11_right_93 : decode cX11_right 93 = .ok (.invokevirtual 173, 3) := dc_182 0 173 (by decide +kernel)
theorem kw_3_104 : (Jvm.Cond.methodLink "ParishUnion" (173 : Nat) ({ cls := "ParishUnion$Right", name := "heldBy", desc := "(I)I" } : Jvm.MethodName)) ∈ gT := gT_of (tb_3 _ (List.mem_of_getElem? (i := 104) rfl)) rfl
theorem dX11_right_96 : decode cX11_right 96 = .ok (.ireturn, 1) := dc_172 (by decide +kernel)
theorem dX11_right_97 : decode cX11_right 97 = .ok (.iconst (-1), 1) := dc_2 (by decide +kernel)
theorem dX11_right_98 : decode cX11_right 98 = .ok (.ireturn, 1) := dc_172 (by decide +kernel)
theorem dX11_right_8 : decode cX11_right 8 = .ok (.iconst (-1), 1) := dc_2 (by decide +kernel)
theorem dX11_right_9 : decode cX11_right 9 = .ok (.ireturn, 1) := dc_172 (by decide +kernel)
abbrev R_X11_right : Room := { frames := 2, cells := 0, slots := 0, locals := 43 }
set_option maxRecDepth 100000 in
set_option maxHeartbeats 4000000 in
theorem s_X11_right {l : Launch} {n0 : Nat} {D : va_G} {cA : Nat → ClassId} {M : gM} (a : Int) (r_a : -2147483648 ≤ a ∧ a ≤ 2147483647) (b : Int) (r_b : -2147483648 ≤ b ∧ b ≤ 2147483647) {sz : Nat} (hsz : 206 ≤ sz) (I : gI sz M) (C : gC sz M)   : Met l yX11_right (gWsOf yX11_right cX11_right 4 (Option.some Jvm.ClassFile.FieldType.int)) R_X11_right (gPc n0 D cA [gA n0 0, gJ a, gJ b] M sz) (gQi n0 D cA sz (fun z M1 => M = M1 ∧ (-3000 ≤ z ∧ z ≤ 9999) ∧ ((¬ (0 ≤ a ∧ a < M 1 11) ∧ z = -1) ∨ ((0 ≤ a ∧ a < M 1 11) ∧ ((b = 0 ∧ z = M (47 + a) 0) ∨ (b = 1 ∧ z = M (47 + a) 1) ∨ (b = 2 ∧ z = M (47 + a) 2) ∨ (b = 3 ∧ z = M (47 + a) 3) ∨ (b = 4 ∧ z = M (47 + a) 4) ∨ (b = 5 ∧ pHeld (M (47 + a) 6) (M (47 + a) 7) (M (47 + a) 8) (M (47 + a) 5) (M 1 12) z) ∨ (¬ (0 ≤ b ∧ b ≤ 5) ∧ z = -1)))))) 0 0 (fun q => n0 ≤ q) := by
  refine gMetI [gA n0 0, gJ a, gJ b] (by decide) (Nat.le_of_ble_eq_true rfl) ⟨rfl, rfl⟩ ?_
  intro p e s m args below meth cd Q X hq
  have X : gCx p s m args meth cd n0 D cA "ParishUnion" cX11_right 4 := X
  show G p l e R_X11_right s m args below meth cd n0 D cA 4 Q 0 0 M sz 0 [(0, gA n0 0), (1, gJ a), (2, gJ b)] []
  obtain ⟨v1, hv1, rv1⟩ := gRd I (by decide) (gsz hsz (by decide)) rc_1_11.1
  obtain ⟨v2, hv2, rv2⟩ := gRd I (by decide) (gsz hsz (by decide)) rc_1_12.1
  have h12 : M 1 12 = v2 := hv2
  refine g_aload_n (n := 1) X 0 dX11_right_0 rfl rfl rfl ?_
  refine g_iload_n (n := 2) X 1 dX11_right_1 rfl rfl rfl ?_
  refine g_callVi (n := 5) (As := [gJ a]) (rest := []) (cs1 := 0) (ss1 := 0) X (s_X11_isRight a (by omega) hsz I C ) okX11_isRight kw_3_96 ⟨kw_3_98, kw_0_1⟩ ⟨rfl, rfl⟩ ⟨Nat.le_of_ble_eq_true rfl, Nat.le_of_ble_eq_true rfl⟩ rfl (by decide) (gsz hsz (by decide)) lay_0 rfl rfl (Nat.le_of_ble_eq_true rfl) ⟨Nat.le_of_ble_eq_true rfl, Nat.le_of_ble_eq_true rfl⟩ rfl rfl dX11_right_2 rfl (fun v3 M4 P5 => ?_)
  obtain ⟨rfl, rv3, xv3⟩ := P5
  refine g_if_ne (n := 8) (tgt := 10) X dX11_right_5 (by decide) (by omega) rfl (fun c6 => ?_) (fun c6 => ?_)
  · refine g_aload_n (n := 11) X 0 dX11_right_10 rfl rfl rfl ?_
    refine gg_11_0 (n := 14) (z := 1) X (by decide) (gsz hsz (by decide)) lay_0 kw_2_231 dX11_right_11 rfl (rf_0_0 I (gsz hsz (by decide))) (by decide) ?_
    refine gg_9_2 (n := 17) (z := 6) X (by decide) (gsz hsz (by decide)) lay_1 kw_2_111 dX11_right_14 rfl (rf_1_2 I (gsz hsz (by decide))) (by decide) ?_
    refine g_iload_n (n := 18) X 1 dX11_right_17 rfl rfl rfl ?_
    obtain ⟨o7, ho7, ro7⟩ : ∃ o : Int, o = 47 + a ∧ (47 ≤ o ∧ o < 87) := ⟨_, rfl, by omega⟩
    refine g_aald7 (n := 19) (t := o7) X (by decide) (gsz hsz (by decide)) lay_6 (by omega) (by omega) (by decide) (gA6 I hsz (by omega) (by omega) (by omega)) (by omega) dX11_right_18 rfl ?_
    refine g_astore_n (n := 20) (L' := [(3, gA n0 o7), (0, gA n0 0), (1, gJ a), (2, gJ b)]) X dX11_right_19 rfl (by decide) rfl rfl ?_
    refine g_iload_n (n := 21) X 3 dX11_right_20 rfl rfl rfl ?_
    by_cases c8 : b = 0
    · refine g_tableIn (tgt := 60) X 0 dX11_right_21 (by omega) (by omega) (by omega) (by omega) rfl (by decide) ?_
      refine g_aload_n (n := 61) X 0 dX11_right_60 rfl rfl rfl ?_
      obtain ⟨v9, hv9, rv9⟩ := gRd I (Rto0 ro7) (Rtosz hsz ro7) (rR_0 ro7).1
      refine gg_8_0 (n := 64) (z := v9) X (Rto0 ro7) (Rtosz hsz ro7) (lay2_R ro7) kw_2_26 dX11_right_61 rfl hv9 ?_
      exact hq _ _ _ _ dX11_right_64 ⟨rfl, by omega, by have q0 : M (47 + a) 0 = M o7 0 := (congrArg (fun x => M x 0) ho7).symm; have q1 : M (47 + a) 1 = M o7 1 := (congrArg (fun x => M x 1) ho7).symm; have q2 : M (47 + a) 2 = M o7 2 := (congrArg (fun x => M x 2) ho7).symm; have q3 : M (47 + a) 3 = M o7 3 := (congrArg (fun x => M x 3) ho7).symm; have q4 : M (47 + a) 4 = M o7 4 := (congrArg (fun x => M x 4) ho7).symm; have q5 : M (47 + a) 5 = M o7 5 := (congrArg (fun x => M x 5) ho7).symm; have q6 : M (47 + a) 6 = M o7 6 := (congrArg (fun x => M x 6) ho7).symm; have q7 : M (47 + a) 7 = M o7 7 := (congrArg (fun x => M x 7) ho7).symm; have q8 : M (47 + a) 8 = M o7 8 := (congrArg (fun x => M x 8) ho7).symm; (first | exact Or.inl ⟨by omega, by omega⟩ | exact Or.inr ⟨by omega, Or.inl ⟨by omega, by omega⟩⟩ | exact Or.inr ⟨by omega, Or.inr (Or.inl ⟨by omega, by omega⟩)⟩ | exact Or.inr ⟨by omega, Or.inr (Or.inr (Or.inl ⟨by omega, by omega⟩))⟩ | exact Or.inr ⟨by omega, Or.inr (Or.inr (Or.inr (Or.inl ⟨by omega, by omega⟩)))⟩ | exact Or.inr ⟨by omega, Or.inr (Or.inr (Or.inr (Or.inr (Or.inl ⟨by omega, by omega⟩))))⟩ | exact Or.inr ⟨by omega, Or.inr (Or.inr (Or.inr (Or.inr (Or.inr (Or.inl ⟨by omega, (by rw [q5, q6, q7, q8, h12]; exact xv9)⟩)))))⟩ | exact Or.inr ⟨by omega, Or.inr (Or.inr (Or.inr (Or.inr (Or.inr (Or.inr (⟨by omega, by omega⟩))))))⟩)⟩
    by_cases c10 : b = 1
    · refine g_tableIn (tgt := 65) X 1 dX11_right_21 (by omega) (by omega) (by omega) (by omega) rfl (by decide) ?_
      refine g_aload_n (n := 66) X 0 dX11_right_65 rfl rfl rfl ?_
      obtain ⟨v11, hv11, rv11⟩ := gRd I (Rto0 ro7) (Rtosz hsz ro7) (rR_1 ro7).1
      refine gg_8_1 (n := 69) (z := v11) X (Rto0 ro7) (Rtosz hsz ro7) (lay2_R ro7) kw_2_29 dX11_right_66 rfl hv11 ?_
      exact hq _ _ _ _ dX11_right_69 ⟨rfl, by omega, by have q0 : M (47 + a) 0 = M o7 0 := (congrArg (fun x => M x 0) ho7).symm; have q1 : M (47 + a) 1 = M o7 1 := (congrArg (fun x => M x 1) ho7).symm; have q2 : M (47 + a) 2 = M o7 2 := (congrArg (fun x => M x 2) ho7).symm; have q3 : M (47 + a) 3 = M o7 3 := (congrArg (fun x => M x 3) ho7).symm; have q4 : M (47 + a) 4 = M o7 4 := (congrArg (fun x => M x 4) ho7).symm; have q5 : M (47 + a) 5 = M o7 5 := (congrArg (fun x => M x 5) ho7).symm; have q6 : M (47 + a) 6 = M o7 6 := (congrArg (fun x => M x 6) ho7).symm; have q7 : M (47 + a) 7 = M o7 7 := (congrArg (fun x => M x 7) ho7).symm; have q8 : M (47 + a) 8 = M o7 8 := (congrArg (fun x => M x 8) ho7).symm; (first | exact Or.inl ⟨by omega, by omega⟩ | exact Or.inr ⟨by omega, Or.inl ⟨by omega, by omega⟩⟩ | exact Or.inr ⟨by omega, Or.inr (Or.inl ⟨by omega, by omega⟩)⟩ | exact Or.inr ⟨by omega, Or.inr (Or.inr (Or.inl ⟨by omega, by omega⟩))⟩ | exact Or.inr ⟨by omega, Or.inr (Or.inr (Or.inr (Or.inl ⟨by omega, by omega⟩)))⟩ | exact Or.inr ⟨by omega, Or.inr (Or.inr (Or.inr (Or.inr (Or.inl ⟨by omega, by omega⟩))))⟩ | exact Or.inr ⟨by omega, Or.inr (Or.inr (Or.inr (Or.inr (Or.inr (Or.inl ⟨by omega, (by rw [q5, q6, q7, q8, h12]; exact xv11)⟩)))))⟩ | exact Or.inr ⟨by omega, Or.inr (Or.inr (Or.inr (Or.inr (Or.inr (Or.inr (⟨by omega, by omega⟩))))))⟩)⟩
    by_cases c12 : b = 2
    · refine g_tableIn (tgt := 70) X 2 dX11_right_21 (by omega) (by omega) (by omega) (by omega) rfl (by decide) ?_
      refine g_aload_n (n := 71) X 0 dX11_right_70 rfl rfl rfl ?_
      obtain ⟨v13, hv13, rv13⟩ := gRd I (Rto0 ro7) (Rtosz hsz ro7) (rR_2 ro7).1
      refine gg_8_2 (n := 74) (z := v13) X (Rto0 ro7) (Rtosz hsz ro7) (lay2_R ro7) kw_2_32 dX11_right_71 rfl hv13 ?_
      exact hq _ _ _ _ dX11_right_74 ⟨rfl, by omega, by have q0 : M (47 + a) 0 = M o7 0 := (congrArg (fun x => M x 0) ho7).symm; have q1 : M (47 + a) 1 = M o7 1 := (congrArg (fun x => M x 1) ho7).symm; have q2 : M (47 + a) 2 = M o7 2 := (congrArg (fun x => M x 2) ho7).symm; have q3 : M (47 + a) 3 = M o7 3 := (congrArg (fun x => M x 3) ho7).symm; have q4 : M (47 + a) 4 = M o7 4 := (congrArg (fun x => M x 4) ho7).symm; have q5 : M (47 + a) 5 = M o7 5 := (congrArg (fun x => M x 5) ho7).symm; have q6 : M (47 + a) 6 = M o7 6 := (congrArg (fun x => M x 6) ho7).symm; have q7 : M (47 + a) 7 = M o7 7 := (congrArg (fun x => M x 7) ho7).symm; have q8 : M (47 + a) 8 = M o7 8 := (congrArg (fun x => M x 8) ho7).symm; (first | exact Or.inl ⟨by omega, by omega⟩ | exact Or.inr ⟨by omega, Or.inl ⟨by omega, by omega⟩⟩ | exact Or.inr ⟨by omega, Or.inr (Or.inl ⟨by omega, by omega⟩)⟩ | exact Or.inr ⟨by omega, Or.inr (Or.inr (Or.inl ⟨by omega, by omega⟩))⟩ | exact Or.inr ⟨by omega, Or.inr (Or.inr (Or.inr (Or.inl ⟨by omega, by omega⟩)))⟩ | exact Or.inr ⟨by omega, Or.inr (Or.inr (Or.inr (Or.inr (Or.inl ⟨by omega, by omega⟩))))⟩ | exact Or.inr ⟨by omega, Or.inr (Or.inr (Or.inr (Or.inr (Or.inr (Or.inl ⟨by omega, (by rw [q5, q6, q7, q8, h12]; exact xv13)⟩)))))⟩ | exact Or.inr ⟨by omega, Or.inr (Or.inr (Or.inr (Or.inr (Or.inr (Or.inr (⟨by omega, by omega⟩))))))⟩)⟩
    by_cases c14 : b = 3
    · refine g_tableIn (tgt := 75) X 3 dX11_right_21 (by omega) (by omega) (by omega) (by omega) rfl (by decide) ?_
      refine g_aload_n (n := 76) X 0 dX11_right_75 rfl rfl rfl ?_
      obtain ⟨v15, hv15, rv15⟩ := gRd I (Rto0 ro7) (Rtosz hsz ro7) (rR_3 ro7).1
      refine gg_8_3 (n := 79) (z := v15) X (Rto0 ro7) (Rtosz hsz ro7) (lay2_R ro7) kw_2_34 dX11_right_76 rfl hv15 ?_
      exact hq _ _ _ _ dX11_right_79 ⟨rfl, by omega, by have q0 : M (47 + a) 0 = M o7 0 := (congrArg (fun x => M x 0) ho7).symm; have q1 : M (47 + a) 1 = M o7 1 := (congrArg (fun x => M x 1) ho7).symm; have q2 : M (47 + a) 2 = M o7 2 := (congrArg (fun x => M x 2) ho7).symm; have q3 : M (47 + a) 3 = M o7 3 := (congrArg (fun x => M x 3) ho7).symm; have q4 : M (47 + a) 4 = M o7 4 := (congrArg (fun x => M x 4) ho7).symm; have q5 : M (47 + a) 5 = M o7 5 := (congrArg (fun x => M x 5) ho7).symm; have q6 : M (47 + a) 6 = M o7 6 := (congrArg (fun x => M x 6) ho7).symm; have q7 : M (47 + a) 7 = M o7 7 := (congrArg (fun x => M x 7) ho7).symm; have q8 : M (47 + a) 8 = M o7 8 := (congrArg (fun x => M x 8) ho7).symm; (first | exact Or.inl ⟨by omega, by omega⟩ | exact Or.inr ⟨by omega, Or.inl ⟨by omega, by omega⟩⟩ | exact Or.inr ⟨by omega, Or.inr (Or.inl ⟨by omega, by omega⟩)⟩ | exact Or.inr ⟨by omega, Or.inr (Or.inr (Or.inl ⟨by omega, by omega⟩))⟩ | exact Or.inr ⟨by omega, Or.inr (Or.inr (Or.inr (Or.inl ⟨by omega, by omega⟩)))⟩ | exact Or.inr ⟨by omega, Or.inr (Or.inr (Or.inr (Or.inr (Or.inl ⟨by omega, by omega⟩))))⟩ | exact Or.inr ⟨by omega, Or.inr (Or.inr (Or.inr (Or.inr (Or.inr (Or.inl ⟨by omega, (by rw [q5, q6, q7, q8, h12]; exact xv15)⟩)))))⟩ | exact Or.inr ⟨by omega, Or.inr (Or.inr (Or.inr (Or.inr (Or.inr (Or.inr (⟨by omega, by omega⟩))))))⟩)⟩
    by_cases c16 : b = 4
    · refine g_tableIn (tgt := 80) X 4 dX11_right_21 (by omega) (by omega) (by omega) (by omega) rfl (by decide) ?_
      refine g_aload_n (n := 81) X 0 dX11_right_80 rfl rfl rfl ?_
      obtain ⟨v17, hv17, rv17⟩ := gRd I (Rto0 ro7) (Rtosz hsz ro7) (rR_4 ro7).1
      refine gg_8_4 (n := 84) (z := v17) X (Rto0 ro7) (Rtosz hsz ro7) (lay2_R ro7) kw_2_37 dX11_right_81 rfl hv17 ?_
      exact hq _ _ _ _ dX11_right_84 ⟨rfl, by omega, by have q0 : M (47 + a) 0 = M o7 0 := (congrArg (fun x => M x 0) ho7).symm; have q1 : M (47 + a) 1 = M o7 1 := (congrArg (fun x => M x 1) ho7).symm; have q2 : M (47 + a) 2 = M o7 2 := (congrArg (fun x => M x 2) ho7).symm; have q3 : M (47 + a) 3 = M o7 3 := (congrArg (fun x => M x 3) ho7).symm; have q4 : M (47 + a) 4 = M o7 4 := (congrArg (fun x => M x 4) ho7).symm; have q5 : M (47 + a) 5 = M o7 5 := (congrArg (fun x => M x 5) ho7).symm; have q6 : M (47 + a) 6 = M o7 6 := (congrArg (fun x => M x 6) ho7).symm; have q7 : M (47 + a) 7 = M o7 7 := (congrArg (fun x => M x 7) ho7).symm; have q8 : M (47 + a) 8 = M o7 8 := (congrArg (fun x => M x 8) ho7).symm; (first | exact Or.inl ⟨by omega, by omega⟩ | exact Or.inr ⟨by omega, Or.inl ⟨by omega, by omega⟩⟩ | exact Or.inr ⟨by omega, Or.inr (Or.inl ⟨by omega, by omega⟩)⟩ | exact Or.inr ⟨by omega, Or.inr (Or.inr (Or.inl ⟨by omega, by omega⟩))⟩ | exact Or.inr ⟨by omega, Or.inr (Or.inr (Or.inr (Or.inl ⟨by omega, by omega⟩)))⟩ | exact Or.inr ⟨by omega, Or.inr (Or.inr (Or.inr (Or.inr (Or.inl ⟨by omega, by omega⟩))))⟩ | exact Or.inr ⟨by omega, Or.inr (Or.inr (Or.inr (Or.inr (Or.inr (Or.inl ⟨by omega, (by rw [q5, q6, q7, q8, h12]; exact xv17)⟩)))))⟩ | exact Or.inr ⟨by omega, Or.inr (Or.inr (Or.inr (Or.inr (Or.inr (Or.inr (⟨by omega, by omega⟩))))))⟩)⟩
    by_cases c18 : b = 5
    · refine g_tableIn (tgt := 85) X 5 dX11_right_21 (by omega) (by omega) (by omega) (by omega) rfl (by decide) ?_
      refine g_aload_n (n := 86) X 0 dX11_right_85 rfl rfl rfl ?_
      refine g_aload_n (n := 87) X 1 dX11_right_86 rfl rfl rfl ?_
      refine gg_11_0 (n := 90) (z := 1) X (by decide) (gsz hsz (by decide)) lay_0 kw_2_231 dX11_right_87 rfl (rf_0_0 I (gsz hsz (by decide))) (by decide) ?_
      refine gg_9_12 (n := 93) (z := v2) X (by decide) (gsz hsz (by decide)) lay_1 kw_2_133 dX11_right_90 rfl hv2 ?_
      refine g_callVi (n := 96) (As := [gJ v2]) (rest := []) (cs1 := 0) (ss1 := 0) X (s_X8_heldBy o7 ro7 v2 (by omega) hsz I C ) okX8_heldBy kw_3_104 ⟨kw_3_105, kw_3_106⟩ ⟨rfl, rfl⟩ ⟨Nat.le_of_ble_eq_true rfl, Nat.le_of_ble_eq_true rfl⟩ rfl (Rto0 ro7) (Rtosz hsz ro7) (lay2_R ro7) rfl rfl (Nat.le_of_ble_eq_true rfl) ⟨Nat.le_of_ble_eq_true rfl, Nat.le_of_ble_eq_true rfl⟩ rfl rfl dX11_right_93 rfl (fun v19 M20 P21 => ?_)
      obtain ⟨rfl, rv19, xv19⟩ := P21
      exact hq _ _ _ _ dX11_right_96 ⟨rfl, by omega, by have q0 : M (47 + a) 0 = M o7 0 := (congrArg (fun x => M x 0) ho7).symm; have q1 : M (47 + a) 1 = M o7 1 := (congrArg (fun x => M x 1) ho7).symm; have q2 : M (47 + a) 2 = M o7 2 := (congrArg (fun x => M x 2) ho7).symm; have q3 : M (47 + a) 3 = M o7 3 := (congrArg (fun x => M x 3) ho7).symm; have q4 : M (47 + a) 4 = M o7 4 := (congrArg (fun x => M x 4) ho7).symm; have q5 : M (47 + a) 5 = M o7 5 := (congrArg (fun x => M x 5) ho7).symm; have q6 : M (47 + a) 6 = M o7 6 := (congrArg (fun x => M x 6) ho7).symm; have q7 : M (47 + a) 7 = M o7 7 := (congrArg (fun x => M x 7) ho7).symm; have q8 : M (47 + a) 8 = M o7 8 := (congrArg (fun x => M x 8) ho7).symm; (first | exact Or.inl ⟨by omega, by omega⟩ | exact Or.inr ⟨by omega, Or.inl ⟨by omega, by omega⟩⟩ | exact Or.inr ⟨by omega, Or.inr (Or.inl ⟨by omega, by omega⟩)⟩ | exact Or.inr ⟨by omega, Or.inr (Or.inr (Or.inl ⟨by omega, by omega⟩))⟩ | exact Or.inr ⟨by omega, Or.inr (Or.inr (Or.inr (Or.inl ⟨by omega, by omega⟩)))⟩ | exact Or.inr ⟨by omega, Or.inr (Or.inr (Or.inr (Or.inr (Or.inl ⟨by omega, by omega⟩))))⟩ | exact Or.inr ⟨by omega, Or.inr (Or.inr (Or.inr (Or.inr (Or.inr (Or.inl ⟨by omega, (by rw [q5, q6, q7, q8, h12]; exact xv19)⟩)))))⟩ | exact Or.inr ⟨by omega, Or.inr (Or.inr (Or.inr (Or.inr (Or.inr (Or.inr (⟨by omega, by omega⟩))))))⟩)⟩
    refine g_tableOut (tgt := 97) X dX11_right_21 (by omega) (by omega) (by decide) ?_
    refine g_iconst (n := 98) X dX11_right_97 rfl ?_
    exact hq _ _ _ _ dX11_right_98 ⟨rfl, by omega, by have q0 : M (47 + a) 0 = M o7 0 := (congrArg (fun x => M x 0) ho7).symm; have q1 : M (47 + a) 1 = M o7 1 := (congrArg (fun x => M x 1) ho7).symm; have q2 : M (47 + a) 2 = M o7 2 := (congrArg (fun x => M x 2) ho7).symm; have q3 : M (47 + a) 3 = M o7 3 := (congrArg (fun x => M x 3) ho7).symm; have q4 : M (47 + a) 4 = M o7 4 := (congrArg (fun x => M x 4) ho7).symm; have q5 : M (47 + a) 5 = M o7 5 := (congrArg (fun x => M x 5) ho7).symm; have q6 : M (47 + a) 6 = M o7 6 := (congrArg (fun x => M x 6) ho7).symm; have q7 : M (47 + a) 7 = M o7 7 := (congrArg (fun x => M x 7) ho7).symm; have q8 : M (47 + a) 8 = M o7 8 := (congrArg (fun x => M x 8) ho7).symm; (first | exact Or.inl ⟨by omega, by omega⟩ | exact Or.inr ⟨by omega, Or.inl ⟨by omega, by omega⟩⟩ | exact Or.inr ⟨by omega, Or.inr (Or.inl ⟨by omega, by omega⟩)⟩ | exact Or.inr ⟨by omega, Or.inr (Or.inr (Or.inl ⟨by omega, by omega⟩))⟩ | exact Or.inr ⟨by omega, Or.inr (Or.inr (Or.inr (Or.inl ⟨by omega, by omega⟩)))⟩ | exact Or.inr ⟨by omega, Or.inr (Or.inr (Or.inr (Or.inr (Or.inl ⟨by omega, by omega⟩))))⟩ | exact Or.inr ⟨by omega, Or.inr (Or.inr (Or.inr (Or.inr (Or.inr (Or.inl ⟨by omega, (by omega)⟩)))))⟩ | exact Or.inr ⟨by omega, Or.inr (Or.inr (Or.inr (Or.inr (Or.inr (Or.inr (⟨by omega, by omega⟩))))))⟩)⟩
  · refine g_iconst (n := 9) X dX11_right_8 rfl ?_
    exact hq _ _ _ _ dX11_right_9 ⟨rfl, by omega, by (first | exact Or.inl ⟨by omega, by omega⟩ | exact Or.inr ⟨by omega, Or.inl ⟨by omega, by omega⟩⟩ | exact Or.inr ⟨by omega, Or.inr (Or.inl ⟨by omega, by omega⟩)⟩ | exact Or.inr ⟨by omega, Or.inr (Or.inr (Or.inl ⟨by omega, by omega⟩))⟩ | exact Or.inr ⟨by omega, Or.inr (Or.inr (Or.inr (Or.inl ⟨by omega, by omega⟩)))⟩ | exact Or.inr ⟨by omega, Or.inr (Or.inr (Or.inr (Or.inr (Or.inl ⟨by omega, by omega⟩))))⟩ | exact Or.inr ⟨by omega, Or.inr (Or.inr (Or.inr (Or.inr (Or.inr (Or.inl ⟨by omega, by omega⟩)))))⟩ | exact Or.inr ⟨by omega, Or.inr (Or.inr (Or.inr (Or.inr (Or.inr (Or.inr (⟨by omega, by omega⟩))))))⟩)⟩
theorem dX11_taken_0 : decode cX11_taken 0 = .ok (.aload_n 0, 1) := dc_42 (by decide +kernel)
theorem dX11_taken_1 : decode cX11_taken 1 = .ok (.iload_n 1, 1) := dc_27 (by decide +kernel)
theorem dX11_taken_2 : decode cX11_taken 2 = .ok (.invokevirtual 136, 3) := dc_182 0 136 (by decide +kernel)
theorem dX11_taken_5 : decode cX11_taken 5 = .ok (.ifCond .eq 12, 3) := dc_153 0 12 12 (by decide +kernel)
theorem dX11_taken_17 : decode cX11_taken 17 = .ok (.iconst (-1), 1) := dc_2 (by decide +kernel)
theorem dX11_taken_18 : decode cX11_taken 18 = .ok (.ireturn, 1) := dc_172 (by decide +kernel)
theorem dX11_taken_8 : decode cX11_taken 8 = .ok (.iload_n 2, 1) := dc_28 (by decide +kernel)
theorem dX11_taken_9 : decode cX11_taken 9 = .ok (.iconst 0, 1) := dc_3 (by decide +kernel)
theorem dX11_taken_10 : decode cX11_taken 10 = .ok (.iconst 4, 1) := dc_7 (by decide +kernel)
theorem dX11_taken_11 : decode cX11_taken 11 = .ok (.invokestatic 62, 3) := dc_184 0 62 (by decide +kernel)
theorem dX11_taken_14 : decode cX11_taken 14 = .ok (.ifCond .ne 5, 3) := dc_154 0 5 5 (by decide +kernel)
theorem dX11_taken_19 : decode cX11_taken 19 = .ok (.aload_n 0, 1) := dc_42 (by decide +kernel)
theorem dX11_taken_20 : decode cX11_taken 20 = .ok (.getfield 10, 3) := dc_180 0 10 (by decide +kernel)
theorem dX11_taken_23 : decode cX11_taken 23 = .ok (.getfield 139, 3) := dc_180 0 139 (by decide +kernel)
theorem dX11_taken_26 : decode cX11_taken 26 = .ok (.iload_n 1, 1) := dc_27 (by decide +kernel)
theorem dX11_taken_27 : decode cX11_taken 27 = .ok (.aaload, 1) := dc_50 (by decide +kernel)
theorem dX11_taken_28 : decode cX11_taken 28 = .ok (.astore_n 3, 1) := dc_78 (by decide +kernel)
theorem dX11_taken_29 : decode cX11_taken 29 = .ok (.aload_n 3, 1) := dc_45 (by decide +kernel)
theorem dX11_taken_30 : decode cX11_taken 30 = .ok (.iload_n 2, 1) := dc_28 (by decide +kernel)
theorem dX11_taken_31 : decode cX11_taken 31 = .ok (.invokevirtual 177, 3) := dc_182 0 177 (by decide +kernel)
theorem kw_3_112 : (Jvm.Cond.methodLink "ParishUnion" (177 : Nat) ({ cls := "ParishUnion$Right", name := "isUnder", desc := "(I)Z" } : Jvm.MethodName)) ∈ gT := gT_of (tb_3 _ (List.mem_of_getElem? (i := 112) rfl)) rfl
theorem kw_3_115 : (Jvm.Cond.code ({ cls := "ParishUnion$Right", name := "isUnder", desc := "(I)Z" } : Jvm.MethodName) prog_10_method_5_code (4 : Nat) (Option.some Jvm.ClassFile.FieldType.boolean)) ∈ gT := gT_of (tb_3 _ (List.mem_of_getElem? (i := 115) rfl)) rfl
theorem okX8_isUnder : gQok yX8_isUnder cX8_isUnder 4 (Option.some Jvm.ClassFile.FieldType.boolean) 1 := ⟨kw_3_115, kw_1_9, by decide +kernel, by decide +kernel, by decide +kernel⟩
theorem kw_3_113 : (Jvm.Cond.instanceMethod ({ cls := "ParishUnion$Right", name := "isUnder", desc := "(I)Z" } : Jvm.MethodName)) ∈ gT := gT_of (tb_3 _ (List.mem_of_getElem? (i := 113) rfl)) rfl
theorem kw_3_114 : (Jvm.Cond.selects "ParishUnion$Right" ({ cls := "ParishUnion$Right", name := "isUnder", desc := "(I)Z" } : Jvm.MethodName) ({ cls := "ParishUnion$Right", name := "isUnder", desc := "(I)Z" } : Jvm.MethodName)) ∈ gT := gT_of (tb_3 _ (List.mem_of_getElem? (i := 114) rfl)) rfl
theorem dX11_taken_34 : decode cX11_taken 34 = .ok (.ifCond .eq 10, 3) := dc_153 0 10 10 (by decide +kernel)
theorem dX11_taken_44 : decode cX11_taken 44 = .ok (.bipush (-6), 2) := dc_16 250 (-6) (by decide +kernel)
theorem dX11_taken_46 : decode cX11_taken 46 = .ok (.ireturn, 1) := dc_172 (by decide +kernel)
theorem dX11_taken_37 : decode cX11_taken 37 = .ok (.aload_n 3, 1) := dc_45 (by decide +kernel)
theorem dX11_taken_38 : decode cX11_taken 38 = .ok (.invokevirtual 180, 3) := dc_182 0 180 (by decide +kernel)
theorem kw_3_118 : (Jvm.Cond.methodLink "ParishUnion" (180 : Nat) ({ cls := "ParishUnion$Right", name := "worth", desc := "()I" } : Jvm.MethodName)) ∈ gT := gT_of (tb_3 _ (List.mem_of_getElem? (i := 118) rfl)) rfl
theorem dX11_taken_41 : decode cX11_taken 41 = .ok (.goto 5, 3) := dc_167 0 5 5 (by decide +kernel)
abbrev R_X11_taken : Room := { frames := 2, cells := 0, slots := 0, locals := 43 }
set_option maxRecDepth 100000 in
set_option maxHeartbeats 4000000 in
theorem s_X11_taken {l : Launch} {n0 : Nat} {D : va_G} {cA : Nat → ClassId} {M : gM} (a : Int) (r_a : -2147483648 ≤ a ∧ a ≤ 2147483647) (b : Int) (r_b : -2147483648 ≤ b ∧ b ≤ 2147483647) {sz : Nat} (hsz : 206 ≤ sz) (I : gI sz M) (C : gC sz M)   : Met l yX11_taken (gWsOf yX11_taken cX11_taken 4 (Option.some Jvm.ClassFile.FieldType.int)) R_X11_taken (gPc n0 D cA [gA n0 0, gJ a, gJ b] M sz) (gQi n0 D cA sz (fun z M1 => M = M1 ∧ (-6 ≤ z ∧ z ≤ 19998) ∧ (((¬ (0 ≤ a ∧ a < M 1 11) ∨ ¬ (0 ≤ b ∧ b ≤ 4)) ∧ z = -1) ∨ (¬ (¬ (0 ≤ a ∧ a < M 1 11) ∨ ¬ (0 ≤ b ∧ b ≤ 4)) ∧ ((¬ (b = 0 ∨ b = M (47 + a) 0 ∨ (M (47 + a) 0 = 4 ∧ b = 1)) ∧ z = -6) ∨ ((b = 0 ∨ b = M (47 + a) 0 ∨ (M (47 + a) 0 = 4 ∧ b = 1)) ∧ ((M (47 + a) 0 = 4 ∧ z = 2 * M (47 + a) 3) ∨ (¬ M (47 + a) 0 = 4 ∧ z = M (47 + a) 3)))))))) 0 0 (fun q => n0 ≤ q) := by
  refine gMetI [gA n0 0, gJ a, gJ b] (by decide) (Nat.le_of_ble_eq_true rfl) ⟨rfl, rfl⟩ ?_
  intro p e s m args below meth cd Q X hq
  have X : gCx p s m args meth cd n0 D cA "ParishUnion" cX11_taken 4 := X
  show G p l e R_X11_taken s m args below meth cd n0 D cA 4 Q 0 0 M sz 0 [(0, gA n0 0), (1, gJ a), (2, gJ b)] []
  obtain ⟨v1, hv1, rv1⟩ := gRd I (by decide) (gsz hsz (by decide)) rc_1_11.1
  refine g_aload_n (n := 1) X 0 dX11_taken_0 rfl rfl rfl ?_
  refine g_iload_n (n := 2) X 1 dX11_taken_1 rfl rfl rfl ?_
  refine g_callVi (n := 5) (As := [gJ a]) (rest := []) (cs1 := 0) (ss1 := 0) X (s_X11_isRight a (by omega) hsz I C ) okX11_isRight kw_3_96 ⟨kw_3_98, kw_0_1⟩ ⟨rfl, rfl⟩ ⟨Nat.le_of_ble_eq_true rfl, Nat.le_of_ble_eq_true rfl⟩ rfl (by decide) (gsz hsz (by decide)) lay_0 rfl rfl (Nat.le_of_ble_eq_true rfl) ⟨Nat.le_of_ble_eq_true rfl, Nat.le_of_ble_eq_true rfl⟩ rfl rfl dX11_taken_2 rfl (fun v2 M3 P4 => ?_)
  obtain ⟨rfl, rv2, xv2⟩ := P4
  refine g_if_eq (n := 8) (tgt := 17) X dX11_taken_5 (by decide) (by omega) rfl (fun c5 => ?_) (fun c5 => ?_)
  · refine g_iconst (n := 18) X dX11_taken_17 rfl ?_
    exact hq _ _ _ _ dX11_taken_18 ⟨rfl, by omega, by omega⟩
  · refine g_iload_n (n := 9) X 2 dX11_taken_8 rfl rfl rfl ?_
    refine g_iconst (n := 10) X dX11_taken_9 rfl ?_
    refine g_iconst (n := 11) X dX11_taken_10 rfl ?_
    refine g_callSi (n := 14) (As := [gJ b, gJ 0, gJ 4]) (rest := []) (cs1 := 0) (ss1 := 0) X (s_X11_within b (by omega) 0 (by omega) 4 (by omega) hsz I C ) okX11_within kw_3_29 kw_3_30 ⟨rfl, rfl⟩ ⟨Nat.le_of_ble_eq_true rfl, Nat.le_of_ble_eq_true rfl⟩ rfl rfl (Nat.le_of_ble_eq_true rfl) ⟨Nat.le_of_ble_eq_true rfl, Nat.le_of_ble_eq_true rfl⟩ rfl rfl dX11_taken_11 rfl (fun v6 M7 P8 => ?_)
    obtain ⟨rfl, rv6, xv6⟩ := P8
    refine g_if_ne (n := 17) (tgt := 19) X dX11_taken_14 (by decide) (by omega) rfl (fun c9 => ?_) (fun c9 => ?_)
    · refine g_aload_n (n := 20) X 0 dX11_taken_19 rfl rfl rfl ?_
      refine gg_11_0 (n := 23) (z := 1) X (by decide) (gsz hsz (by decide)) lay_0 kw_2_231 dX11_taken_20 rfl (rf_0_0 I (gsz hsz (by decide))) (by decide) ?_
      refine gg_9_2 (n := 26) (z := 6) X (by decide) (gsz hsz (by decide)) lay_1 kw_2_111 dX11_taken_23 rfl (rf_1_2 I (gsz hsz (by decide))) (by decide) ?_
      refine g_iload_n (n := 27) X 1 dX11_taken_26 rfl rfl rfl ?_
      obtain ⟨o10, ho10, ro10⟩ : ∃ o : Int, o = 47 + a ∧ (47 ≤ o ∧ o < 87) := ⟨_, rfl, by omega⟩
      refine g_aald7 (n := 28) (t := o10) X (by decide) (gsz hsz (by decide)) lay_6 (by omega) (by omega) (by decide) (gA6 I hsz (by omega) (by omega) (by omega)) (by omega) dX11_taken_27 rfl ?_
      refine g_astore_n (n := 29) (L' := [(3, gA n0 o10), (0, gA n0 0), (1, gJ a), (2, gJ b)]) X dX11_taken_28 rfl (by decide) rfl rfl ?_
      refine g_aload_n (n := 30) X 0 dX11_taken_29 rfl rfl rfl ?_
      refine g_iload_n (n := 31) X 3 dX11_taken_30 rfl rfl rfl ?_
      refine g_callVi (n := 34) (As := [gJ b]) (rest := []) (cs1 := 0) (ss1 := 0) X (s_X8_isUnder o10 ro10 b (by omega) hsz I C ) okX8_isUnder kw_3_112 ⟨kw_3_113, kw_3_114⟩ ⟨rfl, rfl⟩ ⟨Nat.le_of_ble_eq_true rfl, Nat.le_of_ble_eq_true rfl⟩ rfl (Rto0 ro10) (Rtosz hsz ro10) (lay2_R ro10) rfl rfl (Nat.le_of_ble_eq_true rfl) ⟨Nat.le_of_ble_eq_true rfl, Nat.le_of_ble_eq_true rfl⟩ rfl rfl dX11_taken_31 rfl (fun v11 M12 P13 => ?_)
      obtain ⟨rfl, rv11, xv11⟩ := P13
      refine g_if_eq (n := 37) (tgt := 44) X dX11_taken_34 (by decide) (by omega) rfl (fun c14 => ?_) (fun c14 => ?_)
      · refine g_bipush (n := 46) X dX11_taken_44 (by decide +kernel) rfl ?_
        exact hq _ _ _ _ dX11_taken_46 ⟨rfl, by omega, by have q0 : M (47 + a) 0 = M o10 0 := (congrArg (fun x => M x 0) ho10).symm; have q3 : M (47 + a) 3 = M o10 3 := (congrArg (fun x => M x 3) ho10).symm; omega⟩
      · refine g_aload_n (n := 38) X 0 dX11_taken_37 rfl rfl rfl ?_
        refine g_callVi (n := 41) (As := []) (rest := []) (cs1 := 0) (ss1 := 0) X (s_X8_worth o10 ro10 hsz I C ) okX8_worth kw_3_118 ⟨kw_3_119, kw_3_120⟩ ⟨rfl, rfl⟩ ⟨Nat.le_of_ble_eq_true rfl, Nat.le_of_ble_eq_true rfl⟩ rfl (Rto0 ro10) (Rtosz hsz ro10) (lay2_R ro10) rfl rfl (Nat.le_of_ble_eq_true rfl) ⟨Nat.le_of_ble_eq_true rfl, Nat.le_of_ble_eq_true rfl⟩ rfl rfl dX11_taken_38 rfl (fun v15 M16 P17 => ?_)
        obtain ⟨rfl, rv15, xv15⟩ := P17
        refine g_goto (tgt := 46) X dX11_taken_41 (by decide) ?_
        exact hq _ _ _ _ dX11_taken_46 ⟨rfl, by omega, by have q0 : M (47 + a) 0 = M o10 0 := (congrArg (fun x => M x 0) ho10).symm; have q3 : M (47 + a) 3 = M o10 3 := (congrArg (fun x => M x 3) ho10).symm; omega⟩
    · refine g_iconst (n := 18) X dX11_taken_17 rfl ?_
      exact hq _ _ _ _ dX11_taken_18 ⟨rfl, by omega, by omega⟩
theorem dX11_settle_0 : decode cX11_settle 0 = .ok (.aload_n 0, 1) := dc_42 (by decide +kernel)
theorem dX11_settle_1 : decode cX11_settle 1 = .ok (.iload_n 1, 1) := dc_27 (by decide +kernel)
theorem dX11_settle_2 : decode cX11_settle 2 = .ok (.invokevirtual 82, 3) := dc_182 0 82 (by decide +kernel)
theorem dX11_settle_5 : decode cX11_settle 5 = .ok (.ifCond .eq 19, 3) := dc_153 0 19 19 (by decide +kernel)
theorem dX11_settle_24 : decode cX11_settle 24 = .ok (.iconst (-1), 1) := dc_2 (by decide +kernel)
theorem dX11_settle_25 : decode cX11_settle 25 = .ok (.ireturn, 1) := dc_172 (by decide +kernel)
theorem dX11_settle_8 : decode cX11_settle 8 = .ok (.iload_n 2, 1) := dc_28 (by decide +kernel)
theorem dX11_settle_9 : decode cX11_settle 9 = .ok (.invokestatic 184, 3) := dc_184 0 184 (by decide +kernel)
theorem kw_3_126 : (Jvm.Cond.methodLink "ParishUnion" (184 : Nat) ({ cls := "ParishUnion", name := "isBench", desc := "(I)Z" } : Jvm.MethodName)) ∈ gT := gT_of (tb_3 _ (List.mem_of_getElem? (i := 126) rfl)) rfl
theorem kw_3_128 : (Jvm.Cond.code ({ cls := "ParishUnion", name := "isBench", desc := "(I)Z" } : Jvm.MethodName) prog_1_method_50_code (1 : Nat) (Option.some Jvm.ClassFile.FieldType.boolean)) ∈ gT := gT_of (tb_3 _ (List.mem_of_getElem? (i := 128) rfl)) rfl
theorem okX11_isBench : gQok yX11_isBench cX11_isBench 1 (Option.some Jvm.ClassFile.FieldType.boolean) 1 := ⟨kw_3_128, kw_1_1, by decide +kernel, by decide +kernel, by decide +kernel⟩
theorem kw_3_127 : (Jvm.Cond.static ({ cls := "ParishUnion", name := "isBench", desc := "(I)Z" } : Jvm.MethodName)) ∈ gT := gT_of (tb_3 _ (List.mem_of_getElem? (i := 127) rfl)) rfl
theorem dX11_settle_12 : decode cX11_settle 12 = .ok (.ifCond .eq 12, 3) := dc_153 0 12 12 (by decide +kernel)
theorem dX11_settle_15 : decode cX11_settle 15 = .ok (.aload_n 0, 1) := dc_42 (by decide +kernel)
theorem dX11_settle_16 : decode cX11_settle 16 = .ok (.iload 4, 2) := dc_21 4 (by decide +kernel)
theorem dX11_settle_18 : decode cX11_settle 18 = .ok (.invokevirtual 187, 3) := dc_182 0 187 (by decide +kernel)
theorem kw_3_129 : (Jvm.Cond.methodLink "ParishUnion" (187 : Nat) ({ cls := "ParishUnion", name := "isEntryCount", desc := "(I)Z" } : Jvm.MethodName)) ∈ gT := gT_of (tb_3 _ (List.mem_of_getElem? (i := 129) rfl)) rfl
theorem kw_3_132 : (Jvm.Cond.code ({ cls := "ParishUnion", name := "isEntryCount", desc := "(I)Z" } : Jvm.MethodName) prog_1_method_54_code (2 : Nat) (Option.some Jvm.ClassFile.FieldType.boolean)) ∈ gT := gT_of (tb_3 _ (List.mem_of_getElem? (i := 132) rfl)) rfl
theorem okX11_isEntryCount : gQok yX11_isEntryCount cX11_isEntryCount 2 (Option.some Jvm.ClassFile.FieldType.boolean) 1 := ⟨kw_3_132, kw_1_1, by decide +kernel, by decide +kernel, by decide +kernel⟩
theorem kw_3_131 : (Jvm.Cond.instanceMethod ({ cls := "ParishUnion", name := "isEntryCount", desc := "(I)Z" } : Jvm.MethodName)) ∈ gT := gT_of (tb_3 _ (List.mem_of_getElem? (i := 131) rfl)) rfl
theorem kw_0_2 : (Jvm.Cond.selects "ParishUnion" ({ cls := "ParishUnion", name := "isEntryCount", desc := "(I)Z" } : Jvm.MethodName) ({ cls := "ParishUnion", name := "isEntryCount", desc := "(I)Z" } : Jvm.MethodName)) ∈ gT := gT_of (tb_0 _ (List.mem_of_getElem? (i := 2) rfl)) rfl
theorem dX11_settle_21 : decode cX11_settle 21 = .ok (.ifCond .ne 5, 3) := dc_154 0 5 5 (by decide +kernel)
theorem dX11_settle_26 : decode cX11_settle 26 = .ok (.iload_n 3, 1) := dc_29 (by decide +kernel)
theorem dX11_settle_27 : decode cX11_settle 27 = .ok (.sipush (-3000), 3) := dc_17 244 72 (-3000) (by decide +kernel)
theorem dX11_settle_30 : decode cX11_settle 30 = .ok (.sipush 300, 3) := dc_17 1 44 300 (by decide +kernel)
theorem dX11_settle_33 : decode cX11_settle 33 = .ok (.invokestatic 62, 3) := dc_184 0 62 (by decide +kernel)
theorem dX11_settle_36 : decode cX11_settle 36 = .ok (.ifCond .ne 6, 3) := dc_154 0 6 6 (by decide +kernel)
theorem dX11_settle_42 : decode cX11_settle 42 = .ok (.aload_n 0, 1) := dc_42 (by decide +kernel)
theorem dX11_settle_43 : decode cX11_settle 43 = .ok (.getfield 19, 3) := dc_180 0 19 (by decide +kernel)
theorem dX11_settle_46 : decode cX11_settle 46 = .ok (.aload_n 0, 1) := dc_42 (by decide +kernel)
theorem dX11_settle_47 : decode cX11_settle 47 = .ok (.getfield 10, 3) := dc_180 0 10 (by decide +kernel)
theorem dX11_settle_50 : decode cX11_settle 50 = .ok (.iload 4, 2) := dc_21 4 (by decide +kernel)
theorem dX11_settle_52 : decode cX11_settle 52 = .ok (.invokevirtual 190, 3) := dc_182 0 190 (by decide +kernel)
theorem dX11_settle_55 : decode cX11_settle 55 = .ok (.aload_n 0, 1) := dc_42 (by decide +kernel)
theorem dX11_settle_56 : decode cX11_settle 56 = .ok (.getfield 19, 3) := dc_180 0 19 (by decide +kernel)
theorem dX11_settle_59 : decode cX11_settle 59 = .ok (.aload_n 0, 1) := dc_42 (by decide +kernel)
theorem dX11_settle_60 : decode cX11_settle 60 = .ok (.getfield 10, 3) := dc_180 0 10 (by decide +kernel)
theorem dX11_settle_63 : decode cX11_settle 63 = .ok (.iload_n 1, 1) := dc_27 (by decide +kernel)
theorem dX11_settle_64 : decode cX11_settle 64 = .ok (.iload_n 3, 1) := dc_29 (by decide +kernel)
theorem dX11_settle_65 : decode cX11_settle 65 = .ok (.iload_n 2, 1) := dc_28 (by decide +kernel)
theorem dX11_settle_66 : decode cX11_settle 66 = .ok (.invokestatic 194, 3) := dc_184 0 194 (by decide +kernel)
theorem dX11_settle_69 : decode cX11_settle 69 = .ok (.invokevirtual 198, 3) := dc_182 0 198 (by decide +kernel)
theorem dX11_settle_72 : decode cX11_settle 72 = .ok (.ireturn, 1) := dc_172 (by decide +kernel)
theorem dX11_settle_39 : decode cX11_settle 39 = .ok (.bipush (-2), 2) := dc_16 254 (-2) (by decide +kernel)
theorem dX11_settle_41 : decode cX11_settle 41 = .ok (.ireturn, 1) := dc_172 (by decide +kernel)
abbrev R_X11_settle : Room := { frames := 6, cells := 0, slots := 0, locals := 167 }
set_option maxRecDepth 100000 in
set_option maxHeartbeats 4000000 in
theorem s_X11_settle {l : Launch} {n0 : Nat} {D : va_G} {cA : Nat → ClassId} {M : gM} (a : Int) (r_a : -2147483648 ≤ a ∧ a ≤ 2147483647) (b : Int) (r_b : -2147483648 ≤ b ∧ b ≤ 2147483647) (c : Int) (r_c : -2147483648 ≤ c ∧ c ≤ 2147483647) (d : Int) (r_d : -2147483648 ≤ d ∧ d ≤ 2147483647) {sz : Nat} (hsz : 206 ≤ sz) (I : gI sz M) (C : gC sz M)   : Met l yX11_settle (gWsOf yX11_settle cX11_settle 5 (Option.some Jvm.ClassFile.FieldType.int)) R_X11_settle (gPc n0 D cA [gA n0 0, gJ a, gJ b, gJ c, gJ d] M sz) (gQi n0 D cA sz (fun z M1 => (-5 ≤ z ∧ z ≤ 5) ∧ gI sz M1 ∧ gC sz M1 ∧ gFr 33554432 M M1)) 0 0 (fun q => n0 ≤ q) := by
  refine gMetI [gA n0 0, gJ a, gJ b, gJ c, gJ d] (by decide) (Nat.le_of_ble_eq_true rfl) ⟨rfl, rfl⟩ ?_
  intro p e s m args below meth cd Q X hq
  have X : gCx p s m args meth cd n0 D cA "ParishUnion" cX11_settle 5 := X
  show G p l e R_X11_settle s m args below meth cd n0 D cA 5 Q 0 0 M sz 0 [(0, gA n0 0), (1, gJ a), (2, gJ b), (3, gJ c), (4, gJ d)] []
  refine g_aload_n (n := 1) X 0 dX11_settle_0 rfl rfl rfl ?_
  refine g_iload_n (n := 2) X 1 dX11_settle_1 rfl rfl rfl ?_
  refine g_callVi (n := 5) (As := [gJ a]) (rest := []) (cs1 := 0) (ss1 := 0) X (s_X11_isPerson a (by omega) hsz I C ) okX11_isPerson kw_3_56 ⟨kw_3_58, kw_0_0⟩ ⟨rfl, rfl⟩ ⟨Nat.le_of_ble_eq_true rfl, Nat.le_of_ble_eq_true rfl⟩ rfl (by decide) (gsz hsz (by decide)) lay_0 rfl rfl (Nat.le_of_ble_eq_true rfl) ⟨Nat.le_of_ble_eq_true rfl, Nat.le_of_ble_eq_true rfl⟩ rfl rfl dX11_settle_2 rfl (fun v1 M2 P3 => ?_)
  obtain ⟨rfl, rv1, xv1⟩ := P3
  refine g_if_eq (n := 8) (tgt := 24) X dX11_settle_5 (by decide) (by omega) rfl (fun c4 => ?_) (fun c4 => ?_)
  · refine g_iconst (n := 25) X dX11_settle_24 rfl ?_
    exact hq _ _ _ _ dX11_settle_25 ⟨by omega, I, C, gFr.rf⟩
  · refine g_iload_n (n := 9) X 2 dX11_settle_8 rfl rfl rfl ?_
    refine g_callSi (n := 12) (As := [gJ b]) (rest := []) (cs1 := 0) (ss1 := 0) X (s_X11_isBench b (by omega) hsz I C ) okX11_isBench kw_3_126 kw_3_127 ⟨rfl, rfl⟩ ⟨Nat.le_of_ble_eq_true rfl, Nat.le_of_ble_eq_true rfl⟩ rfl rfl (Nat.le_of_ble_eq_true rfl) ⟨Nat.le_of_ble_eq_true rfl, Nat.le_of_ble_eq_true rfl⟩ rfl rfl dX11_settle_9 rfl (fun v5 M6 P7 => ?_)
    obtain ⟨rfl, rv5, xv5⟩ := P7
    refine g_if_eq (n := 15) (tgt := 24) X dX11_settle_12 (by decide) (by omega) rfl (fun c8 => ?_) (fun c8 => ?_)
    · refine g_iconst (n := 25) X dX11_settle_24 rfl ?_
      exact hq _ _ _ _ dX11_settle_25 ⟨by omega, I, C, gFr.rf⟩
    · refine g_aload_n (n := 16) X 0 dX11_settle_15 rfl rfl rfl ?_
      refine g_iload (n := 18) X 4 dX11_settle_16 rfl rfl ?_
      refine g_callVi (n := 21) (As := [gJ d]) (rest := []) (cs1 := 0) (ss1 := 0) X (s_X11_isEntryCount d (by omega) hsz I C ) okX11_isEntryCount kw_3_129 ⟨kw_3_131, kw_0_2⟩ ⟨rfl, rfl⟩ ⟨Nat.le_of_ble_eq_true rfl, Nat.le_of_ble_eq_true rfl⟩ rfl (by decide) (gsz hsz (by decide)) lay_0 rfl rfl (Nat.le_of_ble_eq_true rfl) ⟨Nat.le_of_ble_eq_true rfl, Nat.le_of_ble_eq_true rfl⟩ rfl rfl dX11_settle_18 rfl (fun v9 M10 P11 => ?_)
      obtain ⟨rfl, rv9, xv9⟩ := P11
      refine g_if_ne (n := 24) (tgt := 26) X dX11_settle_21 (by decide) (by omega) rfl (fun c12 => ?_) (fun c12 => ?_)
      · refine g_iload_n (n := 27) X 3 dX11_settle_26 rfl rfl rfl ?_
        refine g_sipush (n := 30) X dX11_settle_27 (by decide +kernel) rfl ?_
        refine g_sipush (n := 33) X dX11_settle_30 (by decide +kernel) rfl ?_
        refine g_callSi (n := 36) (As := [gJ c, gJ (-3000), gJ 300]) (rest := []) (cs1 := 0) (ss1 := 0) X (s_X11_within c (by omega) (-3000) (by omega) 300 (by omega) hsz I C ) okX11_within kw_3_29 kw_3_30 ⟨rfl, rfl⟩ ⟨Nat.le_of_ble_eq_true rfl, Nat.le_of_ble_eq_true rfl⟩ rfl rfl (Nat.le_of_ble_eq_true rfl) ⟨Nat.le_of_ble_eq_true rfl, Nat.le_of_ble_eq_true rfl⟩ rfl rfl dX11_settle_33 rfl (fun v13 M14 P15 => ?_)
        obtain ⟨rfl, rv13, xv13⟩ := P15
        refine g_if_ne (n := 39) (tgt := 42) X dX11_settle_36 (by decide) (by omega) rfl (fun c16 => ?_) (fun c16 => ?_)
        · refine g_aload_n (n := 43) X 0 dX11_settle_42 rfl rfl rfl ?_
          refine gg_11_1 (n := 46) (z := 153) X (by decide) (gsz hsz (by decide)) lay_0 kw_2_232 dX11_settle_43 rfl (rf_0_1 I (gsz hsz (by decide))) (by decide) ?_
          refine g_aload_n (n := 47) X 0 dX11_settle_46 rfl rfl rfl ?_
          refine gg_11_0 (n := 50) (z := 1) X (by decide) (gsz hsz (by decide)) lay_0 kw_2_231 dX11_settle_47 rfl (rf_0_0 I (gsz hsz (by decide))) (by decide) ?_
          refine g_iload (n := 52) X 4 dX11_settle_50 rfl rfl ?_
          refine g_callVv (n := 55) (As := [gA n0 1, gJ d]) (rest := []) (cs1 := 0) (ss1 := 0) X (s_X1_prepare d (by omega) hsz I C ) okX1_prepare kw_3_133 ⟨kw_3_134, kw_3_135⟩ ⟨rfl, rfl⟩ ⟨Nat.le_of_ble_eq_true rfl, Nat.le_of_ble_eq_true rfl⟩ rfl (by decide) (gsz hsz (by decide)) lay_153 rfl rfl (Nat.le_of_ble_eq_true rfl) ⟨Nat.le_of_ble_eq_true rfl, Nat.le_of_ble_eq_true rfl⟩ rfl rfl dX11_settle_52 rfl (fun M18 P19 => ?_)
          obtain ⟨IM18, CM18, FM18⟩ := P19
          refine g_aload_n (n := 56) X 0 dX11_settle_55 rfl rfl rfl ?_
          refine gg_11_1 (n := 59) (z := 153) X (by decide) (gsz hsz (by decide)) lay_0 kw_2_232 dX11_settle_56 rfl (rf_0_1 IM18 (gsz hsz (by decide))) (by decide) ?_
          refine g_aload_n (n := 60) X 0 dX11_settle_59 rfl rfl rfl ?_
          refine gg_11_0 (n := 63) (z := 1) X (by decide) (gsz hsz (by decide)) lay_0 kw_2_231 dX11_settle_60 rfl (rf_0_0 IM18 (gsz hsz (by decide))) (by decide) ?_
          refine g_iload_n (n := 64) X 1 dX11_settle_63 rfl rfl rfl ?_
          refine g_iload_n (n := 65) X 3 dX11_settle_64 rfl rfl rfl ?_
          refine g_iload_n (n := 66) X 2 dX11_settle_65 rfl rfl rfl ?_
          refine g_callSl (n := 69) (As := [gJ b]) (rest := [gJ c, gJ a, gA n0 1, gA n0 153]) (cs1 := 0) (ss1 := 0) X (s_X11_takenBy b (by omega) hsz IM18 CM18 ) okX11_takenBy kw_3_156 kw_3_157 ⟨rfl, rfl⟩ ⟨Nat.le_of_ble_eq_true rfl, Nat.le_of_ble_eq_true rfl⟩ rfl rfl (Nat.le_of_ble_eq_true rfl) ⟨Nat.le_of_ble_eq_true rfl, Nat.le_of_ble_eq_true rfl⟩ rfl rfl dX11_settle_66 rfl (fun v20 M21 P22 => ?_)
          obtain ⟨rfl, rv20⟩ := P22
          refine g_callVi (n := 72) (As := [gA n0 1, gJ a, gJ c, gV v20]) (rest := []) (cs1 := 0) (ss1 := 0) X (s_X1_whose a (by omega) c (by omega) v20 (by omega) hsz IM18 CM18 ) okX1_whose kw_3_160 ⟨kw_3_161, kw_3_162⟩ ⟨rfl, rfl⟩ ⟨Nat.le_of_ble_eq_true rfl, Nat.le_of_ble_eq_true rfl⟩ rfl (by decide) (gsz hsz (by decide)) lay_153 rfl rfl (Nat.le_of_ble_eq_true rfl) ⟨Nat.le_of_ble_eq_true rfl, Nat.le_of_ble_eq_true rfl⟩ rfl rfl dX11_settle_69 rfl (fun v23 M24 P25 => ?_)
          obtain ⟨rfl, rv23⟩ := P25
          exact hq _ _ _ _ dX11_settle_72 ⟨by omega, IM18, CM18, (gFr.c gFr.rf FM18 rfl)⟩
        · refine g_bipush (n := 41) X dX11_settle_39 (by decide +kernel) rfl ?_
          exact hq _ _ _ _ dX11_settle_41 ⟨by omega, I, C, gFr.rf⟩
      · refine g_iconst (n := 25) X dX11_settle_24 rfl ?_
        exact hq _ _ _ _ dX11_settle_25 ⟨by omega, I, C, gFr.rf⟩
theorem dX11_feed_0 : decode cX11_feed 0 = .ok (.iload_n 3, 1) := dc_29 (by decide +kernel)
theorem dX11_feed_1 : decode cX11_feed 1 = .ok (.iconst 1, 1) := dc_4 (by decide +kernel)
theorem dX11_feed_2 : decode cX11_feed 2 = .ok (.bipush 8, 2) := dc_16 8 8 (by decide +kernel)
theorem dX11_feed_4 : decode cX11_feed 4 = .ok (.invokestatic 62, 3) := dc_184 0 62 (by decide +kernel)
theorem dX11_feed_7 : decode cX11_feed 7 = .ok (.ifCond .ne 6, 3) := dc_154 0 6 6 (by decide +kernel)
theorem dX11_feed_13 : decode cX11_feed 13 = .ok (.aload_n 0, 1) := dc_42 (by decide +kernel)
theorem dX11_feed_14 : decode cX11_feed 14 = .ok (.getfield 10, 3) := dc_180 0 10 (by decide +kernel)
theorem dX11_feed_17 : decode cX11_feed 17 = .ok (.getfield 212, 3) := dc_180 0 212 (by decide +kernel)
theorem kw_2_137 : (Jvm.Cond.fieldLink "ParishUnion" (212 : Nat) "ParishUnion$Union" "tapeSize" "I") ∈ gT := gT_of (tb_2 _ (List.mem_of_getElem? (i := 137) rfl)) rfl
theorem rc_1_14 : gRg 1 14 = (0, 150) ∧ gCr 1 14 = false ∧ gG 1 14 = 23 := by decide +kernel
theorem dX11_feed_20 : decode cX11_feed 20 = .ok (.iload_n 3, 1) := dc_29 (by decide +kernel)
theorem dX11_feed_21 : decode cX11_feed 21 = .ok (.iadd, 1) := dc_96 (by decide +kernel)
theorem dX11_feed_22 : decode cX11_feed 22 = .ok (.sipush 150, 3) := dc_17 0 150 150 (by decide +kernel)
theorem dX11_feed_25 : decode cX11_feed 25 = .ok (.if_icmp .le 6, 3) := dc_164 0 6 6 (by decide +kernel)
theorem dX11_feed_31 : decode cX11_feed 31 = .ok (.iload_n 3, 1) := dc_29 (by decide +kernel)
theorem dX11_feed_32 : decode cX11_feed 32 = .ok (.iconst 1, 1) := dc_4 (by decide +kernel)
theorem dX11_feed_33 : decode cX11_feed 33 = .ok (.isub, 1) := dc_100 (by decide +kernel)
theorem dX11_feed_34 : decode cX11_feed 34 = .ok (.istore 4, 2) := dc_54 4 (by decide +kernel)
theorem dX11_feed_36 : decode cX11_feed 36 = .ok (.iload 4, 2) := dc_21 4 (by decide +kernel)
theorem dX11_feed_38 : decode cX11_feed 38 = .ok (.ifCond .lt 46, 3) := dc_155 0 46 46 (by decide +kernel)
theorem dX11_feed_41 : decode cX11_feed 41 = .ok (.aload_n 0, 1) := dc_42 (by decide +kernel)
theorem dX11_feed_42 : decode cX11_feed 42 = .ok (.getfield 10, 3) := dc_180 0 10 (by decide +kernel)
theorem dX11_feed_45 : decode cX11_feed 45 = .ok (.getfield 215, 3) := dc_180 0 215 (by decide +kernel)
theorem kw_2_115 : (Jvm.Cond.fieldLink "ParishUnion" (215 : Nat) "ParishUnion$Union" "tape" "[B") ∈ gT := gT_of (tb_2 _ (List.mem_of_getElem? (i := 115) rfl)) rfl
theorem rf_1_4 {sz : Nat} {M : gM} (I : gI sz M) (h : (1 : Int) < (sz : Int)) : M 1 4 = 8 + 1 := gI.rf I (by decide) h (by decide +kernel)
theorem dX11_feed_48 : decode cX11_feed 48 = .ok (.aload_n 0, 1) := dc_42 (by decide +kernel)
theorem dX11_feed_49 : decode cX11_feed 49 = .ok (.getfield 10, 3) := dc_180 0 10 (by decide +kernel)
theorem dX11_feed_52 : decode cX11_feed 52 = .ok (.getfield 212, 3) := dc_180 0 212 (by decide +kernel)
theorem dX11_feed_55 : decode cX11_feed 55 = .ok (.lload_n 1, 1) := dc_31 (by decide +kernel)
theorem dX11_feed_56 : decode cX11_feed 56 = .ok (.bipush 8, 2) := dc_16 8 8 (by decide +kernel)
theorem dX11_feed_58 : decode cX11_feed 58 = .ok (.iload 4, 2) := dc_21 4 (by decide +kernel)
theorem dX11_feed_60 : decode cX11_feed 60 = .ok (.imul, 1) := dc_104 (by decide +kernel)
theorem dX11_feed_61 : decode cX11_feed 61 = .ok (.lushr, 1) := dc_125 (by decide +kernel)
theorem dX11_feed_62 : decode cX11_feed 62 = .ok (.l2i, 1) := dc_136 (by decide +kernel)
theorem dX11_feed_63 : decode cX11_feed 63 = .ok (.i2b, 1) := dc_145 (by decide +kernel)
theorem dX11_feed_64 : decode cX11_feed 64 = .ok (.bastore, 1) := dc_84 (by decide +kernel)
theorem ra_8 (k : Int) : gRg 8 k = (-128, 127) ∧ gCr 8 k = false ∧ gG 8 k = 9 := ⟨rfl, rfl, rfl⟩
theorem dX11_feed_65 : decode cX11_feed 65 = .ok (.aload_n 0, 1) := dc_42 (by decide +kernel)
theorem dX11_feed_66 : decode cX11_feed 66 = .ok (.getfield 10, 3) := dc_180 0 10 (by decide +kernel)
theorem dX11_feed_69 : decode cX11_feed 69 = .ok (.dup, 1) := dc_89 (by decide +kernel)
theorem dX11_feed_70 : decode cX11_feed 70 = .ok (.getfield 212, 3) := dc_180 0 212 (by decide +kernel)
theorem dX11_feed_73 : decode cX11_feed 73 = .ok (.iconst 1, 1) := dc_4 (by decide +kernel)
theorem dX11_feed_74 : decode cX11_feed 74 = .ok (.iadd, 1) := dc_96 (by decide +kernel)
theorem dX11_feed_75 : decode cX11_feed 75 = .ok (.putfield 212, 3) := dc_181 0 212 (by decide +kernel)
theorem dX11_feed_78 : decode cX11_feed 78 = .ok (.iinc 4 (-1), 3) := dc_132 4 255 (-1) (by decide +kernel)
theorem dX11_feed_81 : decode cX11_feed 81 = .ok (.goto (-45), 3) := dc_167 255 211 (-45) (by decide +kernel)
theorem dX11_feed_84 : decode cX11_feed 84 = .ok (.aload_n 0, 1) := dc_42 (by decide +kernel)
theorem dX11_feed_85 : decode cX11_feed 85 = .ok (.getfield 10, 3) := dc_180 0 10 (by decide +kernel)
theorem dX11_feed_88 : decode cX11_feed 88 = .ok (.getfield 212, 3) := dc_180 0 212 (by decide +kernel)
theorem dX11_feed_91 : decode cX11_feed 91 = .ok (.ireturn, 1) := dc_172 (by decide +kernel)
theorem dX11_feed_28 : decode cX11_feed 28 = .ok (.bipush (-4), 2) := dc_16 252 (-4) (by decide +kernel)
theorem dX11_feed_30 : decode cX11_feed 30 = .ok (.ireturn, 1) := dc_172 (by decide +kernel)
theorem dX11_feed_10 : decode cX11_feed 10 = .ok (.bipush (-2), 2) := dc_16 254 (-2) (by decide +kernel)
theorem dX11_feed_12 : decode cX11_feed 12 = .ok (.ireturn, 1) := dc_172 (by decide +kernel)
abbrev R_X11_feed : Room := { frames := 1, cells := 0, slots := 0, locals := 22 }
set_option maxRecDepth 100000 in
set_option maxHeartbeats 4000000 in
theorem s_X11_feed {l : Launch} {n0 : Nat} {D : va_G} {cA : Nat → ClassId} {M : gM} (a : Int) (r_a : -9223372036854775808 ≤ a ∧ a ≤ 9223372036854775807) (b : Int) (r_b : -2147483648 ≤ b ∧ b ≤ 2147483647) {sz : Nat} (hsz : 206 ≤ sz) (I : gI sz M) (C : gC sz M)   : Met l yX11_feed (gWsOf yX11_feed cX11_feed 5 (Option.some Jvm.ClassFile.FieldType.int)) R_X11_feed (gPc n0 D cA [gA n0 0, gV a, gJ b] M sz) (gQi n0 D cA sz (fun z M1 => (-4 ≤ z ∧ z ≤ 150) ∧ gI sz M1 ∧ gC sz M1 ∧ gFr 8389120 M M1)) 0 0 (fun q => n0 ≤ q) := by
  refine gMetI [gA n0 0, gV a, gJ b] (by decide) (Nat.le_of_ble_eq_true rfl) ⟨rfl, rfl⟩ ?_
  intro p e s m args below meth cd Q X hq
  have X : gCx p s m args meth cd n0 D cA "ParishUnion" cX11_feed 5 := X
  show G p l e R_X11_feed s m args below meth cd n0 D cA 5 Q 0 0 M sz 0 [(0, gA n0 0), (1, gV a), (3, gJ b)] []
  refine g_iload_n (n := 1) X 2 dX11_feed_0 rfl rfl rfl ?_
  refine g_iconst (n := 2) X dX11_feed_1 rfl ?_
  refine g_bipush (n := 4) X dX11_feed_2 (by decide +kernel) rfl ?_
  refine g_callSi (n := 7) (As := [gJ b, gJ 1, gJ 8]) (rest := []) (cs1 := 0) (ss1 := 0) X (s_X11_within b (by omega) 1 (by omega) 8 (by omega) hsz I C ) okX11_within kw_3_29 kw_3_30 ⟨rfl, rfl⟩ ⟨Nat.le_of_ble_eq_true rfl, Nat.le_of_ble_eq_true rfl⟩ rfl rfl (Nat.le_of_ble_eq_true rfl) ⟨Nat.le_of_ble_eq_true rfl, Nat.le_of_ble_eq_true rfl⟩ rfl rfl dX11_feed_4 rfl (fun v1 M2 P3 => ?_)
  obtain ⟨rfl, rv1, xv1⟩ := P3
  refine g_if_ne (n := 10) (tgt := 13) X dX11_feed_7 (by decide) (by omega) rfl (fun c4 => ?_) (fun c4 => ?_)
  · refine g_aload_n (n := 14) X 0 dX11_feed_13 rfl rfl rfl ?_
    refine gg_11_0 (n := 17) (z := 1) X (by decide) (gsz hsz (by decide)) lay_0 kw_2_231 dX11_feed_14 rfl (rf_0_0 I (gsz hsz (by decide))) (by decide) ?_
    obtain ⟨v5, hv5, rv5⟩ := gRd I (by decide) (gsz hsz (by decide)) rc_1_14.1
    refine gg_9_14 (n := 20) (z := v5) X (by decide) (gsz hsz (by decide)) lay_1 kw_2_137 dX11_feed_17 rfl hv5 ?_
    refine g_iload_n (n := 21) X 2 dX11_feed_20 rfl rfl rfl ?_
    refine g_iadd (n := 22) (z := v5 + b) X dX11_feed_21 rfl rfl ?_
    refine g_sipush (n := 25) X dX11_feed_22 (by decide +kernel) rfl ?_
    refine g_icmp_le (n := 28) (tgt := 31) X dX11_feed_25 (by decide) (by omega) (by omega) rfl (fun c6 => ?_) (fun c6 => ?_)
    · refine g_iload_n (n := 32) X 2 dX11_feed_31 rfl rfl rfl ?_
      refine g_iconst (n := 33) X dX11_feed_32 rfl ?_
      refine g_isub (n := 34) (z := b - 1) X dX11_feed_33 (by omega) rfl ?_
      refine g_istore (n := 36) (L' := [(4, gJ (b - 1)), (0, gA n0 0), (1, gV a), (3, gJ b)]) X dX11_feed_34 (by decide) rfl rfl ?_
      have j9 : ∀ (N28 : Nat) (v7 : Int) (M8 : gM) , (-1 ≤ v7 ∧ v7 ≤ 7) → gI sz M8 → gC sz M8 → gFr 8389120 M M8 → (M8 1 14 + v7 ≤ 149) → (v7 + 1).toNat < N28 → G p l e R_X11_feed s m args below meth cd n0 D cA 5 Q 0 0 M8 sz 36 [(0, gA n0 0), (1, gV a), (4, gJ v7)] [] := by
        intro N28; induction N28 with
        | zero => intro v7 M8 rv7 IM8 CM8 FM8 hl hm30; exfalso; omega
        | succ N28 ih29 =>
          intro v7 M8 rv7 IM8 CM8 FM8 hl hm30
          refine g_iload (n := 38) X 2 dX11_feed_36 rfl rfl ?_
          refine g_if_lt (n := 41) (tgt := 84) X dX11_feed_38 (by decide) (by omega) rfl (fun c31 => ?_) (fun c31 => ?_)
          · refine g_aload_n (n := 85) X 0 dX11_feed_84 rfl rfl rfl ?_
            refine gg_11_0 (n := 88) (z := 1) X (by decide) (gsz hsz (by decide)) lay_0 kw_2_231 dX11_feed_85 rfl (rf_0_0 IM8 (gsz hsz (by decide))) (by decide) ?_
            obtain ⟨v32, hv32, rv32⟩ := gRd IM8 (by decide) (gsz hsz (by decide)) rc_1_14.1
            refine gg_9_14 (n := 91) (z := v32) X (by decide) (gsz hsz (by decide)) lay_1 kw_2_137 dX11_feed_88 rfl hv32 ?_
            exact hq _ _ _ _ dX11_feed_91 ⟨by omega, IM8, CM8, (gFr.c gFr.rf FM8 rfl)⟩
          · refine g_aload_n (n := 42) X 0 dX11_feed_41 rfl rfl rfl ?_
            refine gg_11_0 (n := 45) (z := 1) X (by decide) (gsz hsz (by decide)) lay_0 kw_2_231 dX11_feed_42 rfl (rf_0_0 IM8 (gsz hsz (by decide))) (by decide) ?_
            refine gg_9_4 (n := 48) (z := 8) X (by decide) (gsz hsz (by decide)) lay_1 kw_2_115 dX11_feed_45 rfl (rf_1_4 IM8 (gsz hsz (by decide))) (by decide) ?_
            refine g_aload_n (n := 49) X 0 dX11_feed_48 rfl rfl rfl ?_
            refine gg_11_0 (n := 52) (z := 1) X (by decide) (gsz hsz (by decide)) lay_0 kw_2_231 dX11_feed_49 rfl (rf_0_0 IM8 (gsz hsz (by decide))) (by decide) ?_
            obtain ⟨v33, hv33, rv33⟩ := gRd IM8 (by decide) (gsz hsz (by decide)) rc_1_14.1
            refine gg_9_14 (n := 55) (z := v33) X (by decide) (gsz hsz (by decide)) lay_1 kw_2_137 dX11_feed_52 rfl hv33 ?_
            refine g_lload_n (n := 56) X 1 dX11_feed_55 rfl rfl rfl ?_
            refine g_bipush (n := 58) X dX11_feed_56 (by decide +kernel) rfl ?_
            refine g_iload (n := 60) X 2 dX11_feed_58 rfl rfl ?_
            refine g_imul (n := 61) (z := 8 * v7) X dX11_feed_60 rfl rfl ?_
            refine g_lushrA (n := 62) X dX11_feed_61 rfl (fun v34 rv34 xv34 => ?_)
            clear xv34
            refine g_l2iA (n := 63) X dX11_feed_62 rfl (fun v35 rv35 xv35 => ?_)
            clear xv35
            refine g_i2bA (n := 64) X dX11_feed_63 rfl (fun v36 rv36 xv36 => ?_)
            replace rv36 := g_i2br rv36 xv36
            clear xv36
            refine g_bast (n := 65) (z := v36) X (by decide) (gsz hsz (by decide)) lay_8 (by omega) (by omega) (by decide) (g_bn (by omega)) dX11_feed_64 rfl ?_
            refine G.nm (fun M37 e38 => ?_)
            have IM37 : gI sz M37 := gI.set IM8 (ra_8 v33).1 (by omega) e38
            have CM37 : gC sz M37 := gC.set CM8 (ra_8 v33).2.1 e38
            refine g_aload_n (n := 66) X 0 dX11_feed_65 rfl rfl rfl ?_
            refine gg_11_0 (n := 69) (z := 1) X (by decide) (gsz hsz (by decide)) lay_0 kw_2_231 dX11_feed_66 rfl (rf_0_0 IM37 (gsz hsz (by decide))) (by decide) ?_
            refine g_dup (n := 70) X dX11_feed_69 rfl rfl ?_
            refine gg_9_14 (n := 73) (z := v33) X (by decide) (gsz hsz (by decide)) lay_1 kw_2_137 dX11_feed_70 rfl ((congrFun (congrFun e38 _) _).trans ((gset_ne (by omega)).trans hv33)) ?_
            refine g_iconst (n := 74) X dX11_feed_73 rfl ?_
            refine g_iadd (n := 75) (z := v33 + 1) X dX11_feed_74 (by omega) rfl ?_
            refine gp_9_14 (n := 78) X (by decide) (gsz hsz (by decide)) lay_1 kw_2_137 dX11_feed_75 rfl ?_
            refine G.nm (fun M39 e40 => ?_)
            have IM39 : gI sz M39 := gI.set IM37 rc_1_14.1 (by omega) e40
            have CM39 : gC sz M39 := gC.set CM37 rc_1_14.2.1 e40
            refine g_iinc (n := 81) (w := v7 - 1) (L' := [(4, gJ (v7 - 1)), (0, gA n0 0), (1, gV a)]) X 2 dX11_feed_78 rfl rfl (by decide) rfl rfl ?_
            refine g_goto (tgt := 36) X dX11_feed_81 (by decide) ?_
            refine G.sub (L' := [(0, gA n0 0), (1, gV a), (4, gJ (v7 - 1))]) [1, 2, 0] rfl ?_
            exact ih29 (v7 - 1) M39 (by omega) IM39 CM39 (gFr.s (gFr.s (gFr.c gFr.rf FM8 rfl) e38 (ra_8 v33).2.2 rfl) e40 rc_1_14.2.2 rfl) (by have h1 := ((congrFun (congrFun e40 _) _).trans (gset_eq _ _ _ _)); omega) (by omega)
      refine G.sub (L' := [(0, gA n0 0), (1, gV a), (4, gJ (b - 1))]) [1, 2, 0] rfl ?_
      exact j9 _ (b - 1) M (by omega) I C gFr.rf (by have h1 := hv5; omega) (Nat.lt_succ_self _)
    · refine g_bipush (n := 30) X dX11_feed_28 (by decide +kernel) rfl ?_
      exact hq _ _ _ _ dX11_feed_30 ⟨by omega, I, C, gFr.rf⟩
  · refine g_bipush (n := 12) X dX11_feed_10 (by decide +kernel) rfl ?_
    exact hq _ _ _ _ dX11_feed_12 ⟨by omega, I, C, gFr.rf⟩
theorem dX11_force_0 : decode cX11_force 0 = .ok (.iload_n 2, 1) := dc_28 (by decide +kernel)
theorem dX11_force_1 : decode cX11_force 1 = .ok (.iconst 0, 1) := dc_3 (by decide +kernel)
theorem dX11_force_2 : decode cX11_force 2 = .ok (.bipush 19, 2) := dc_16 19 19 (by decide +kernel)
theorem dX11_force_4 : decode cX11_force 4 = .ok (.invokestatic 62, 3) := dc_184 0 62 (by decide +kernel)
theorem dX11_force_7 : decode cX11_force 7 = .ok (.ifCond .ne 5, 3) := dc_154 0 5 5 (by decide +kernel)
theorem dX11_force_12 : decode cX11_force 12 = .ok (.iload_n 1, 1) := dc_27 (by decide +kernel)
theorem dX11_force_13 : decode cX11_force 13 = .ok (.iconst 0, 1) := dc_3 (by decide +kernel)
theorem dX11_force_14 : decode cX11_force 14 = .ok (.sipush 300, 3) := dc_17 1 44 300 (by decide +kernel)
theorem dX11_force_17 : decode cX11_force 17 = .ok (.invokestatic 62, 3) := dc_184 0 62 (by decide +kernel)
theorem dX11_force_20 : decode cX11_force 20 = .ok (.ifCond .ne 6, 3) := dc_154 0 6 6 (by decide +kernel)
theorem dX11_force_26 : decode cX11_force 26 = .ok (.iload_n 2, 1) := dc_28 (by decide +kernel)
theorem dX11_force_27 : decode cX11_force 27 = .ok (.bipush 10, 2) := dc_16 10 10 (by decide +kernel)
theorem dX11_force_29 : decode cX11_force 29 = .ok (.if_icmp .ge 15, 3) := dc_162 0 15 15 (by decide +kernel)
theorem dX11_force_44 : decode cX11_force 44 = .ok (.aload_n 0, 1) := dc_42 (by decide +kernel)
theorem dX11_force_45 : decode cX11_force 45 = .ok (.getfield 10, 3) := dc_180 0 10 (by decide +kernel)
theorem dX11_force_48 : decode cX11_force 48 = .ok (.iload_n 2, 1) := dc_28 (by decide +kernel)
theorem dX11_force_49 : decode cX11_force 49 = .ok (.bipush 10, 2) := dc_16 10 10 (by decide +kernel)
theorem dX11_force_51 : decode cX11_force 51 = .ok (.isub, 1) := dc_100 (by decide +kernel)
theorem dX11_force_52 : decode cX11_force 52 = .ok (.iload_n 1, 1) := dc_27 (by decide +kernel)
theorem dX11_force_53 : decode cX11_force 53 = .ok (.invokevirtual 228, 3) := dc_182 0 228 (by decide +kernel)
theorem kw_4_92 : (Jvm.Cond.methodLink "ParishUnion" (228 : Nat) ({ cls := "ParishUnion$Union", name := "actInForce", desc := "(II)I" } : Jvm.MethodName)) ∈ gT := gT_of (tb_4 _ (List.mem_of_getElem? (i := 92) rfl)) rfl
theorem dX11_force_56 : decode cX11_force 56 = .ok (.ireturn, 1) := dc_172 (by decide +kernel)
theorem dX11_force_32 : decode cX11_force 32 = .ok (.aload_n 0, 1) := dc_42 (by decide +kernel)
theorem dX11_force_33 : decode cX11_force 33 = .ok (.getfield 10, 3) := dc_180 0 10 (by decide +kernel)
theorem dX11_force_36 : decode cX11_force 36 = .ok (.iload_n 2, 1) := dc_28 (by decide +kernel)
theorem dX11_force_37 : decode cX11_force 37 = .ok (.iload_n 1, 1) := dc_27 (by decide +kernel)
theorem dX11_force_38 : decode cX11_force 38 = .ok (.invokevirtual 225, 3) := dc_182 0 225 (by decide +kernel)
theorem dX11_force_41 : decode cX11_force 41 = .ok (.goto 15, 3) := dc_167 0 15 15 (by decide +kernel)
theorem dX11_force_23 : decode cX11_force 23 = .ok (.bipush (-2), 2) := dc_16 254 (-2) (by decide +kernel)
theorem dX11_force_25 : decode cX11_force 25 = .ok (.ireturn, 1) := dc_172 (by decide +kernel)
theorem dX11_force_10 : decode cX11_force 10 = .ok (.iconst (-1), 1) := dc_2 (by decide +kernel)
theorem dX11_force_11 : decode cX11_force 11 = .ok (.ireturn, 1) := dc_172 (by decide +kernel)
abbrev R_X11_force : Room := { frames := 2, cells := 0, slots := 0, locals := 48 }
set_option maxRecDepth 100000 in
set_option maxHeartbeats 4000000 in
theorem s_X11_force {l : Launch} {n0 : Nat} {D : va_G} {cA : Nat → ClassId} {M : gM} (a : Int) (r_a : -2147483648 ≤ a ∧ a ≤ 2147483647) (b : Int) (r_b : -2147483648 ≤ b ∧ b ≤ 2147483647) {sz : Nat} (hsz : 206 ≤ sz) (I : gI sz M) (C : gC sz M)   : Met l yX11_force (gWsOf yX11_force cX11_force 3 (Option.some Jvm.ClassFile.FieldType.int)) R_X11_force (gPc n0 D cA [gA n0 0, gJ a, gJ b] M sz) (gQi n0 D cA sz (fun z M1 => M = M1 ∧ (-2147483648 ≤ z ∧ z ≤ 2147483647))) 0 0 (fun q => n0 ≤ q) := by
  refine gMetI [gA n0 0, gJ a, gJ b] (by decide) (Nat.le_of_ble_eq_true rfl) ⟨rfl, rfl⟩ ?_
  intro p e s m args below meth cd Q X hq
  have X : gCx p s m args meth cd n0 D cA "ParishUnion" cX11_force 3 := X
  show G p l e R_X11_force s m args below meth cd n0 D cA 3 Q 0 0 M sz 0 [(0, gA n0 0), (1, gJ a), (2, gJ b)] []
  refine g_iload_n (n := 1) X 2 dX11_force_0 rfl rfl rfl ?_
  refine g_iconst (n := 2) X dX11_force_1 rfl ?_
  refine g_bipush (n := 4) X dX11_force_2 (by decide +kernel) rfl ?_
  refine g_callSi (n := 7) (As := [gJ b, gJ 0, gJ 19]) (rest := []) (cs1 := 0) (ss1 := 0) X (s_X11_within b (by omega) 0 (by omega) 19 (by omega) hsz I C ) okX11_within kw_3_29 kw_3_30 ⟨rfl, rfl⟩ ⟨Nat.le_of_ble_eq_true rfl, Nat.le_of_ble_eq_true rfl⟩ rfl rfl (Nat.le_of_ble_eq_true rfl) ⟨Nat.le_of_ble_eq_true rfl, Nat.le_of_ble_eq_true rfl⟩ rfl rfl dX11_force_4 rfl (fun v1 M2 P3 => ?_)
  obtain ⟨rfl, rv1, xv1⟩ := P3
  refine g_if_ne (n := 10) (tgt := 12) X dX11_force_7 (by decide) (by omega) rfl (fun c4 => ?_) (fun c4 => ?_)
  · refine g_iload_n (n := 13) X 1 dX11_force_12 rfl rfl rfl ?_
    refine g_iconst (n := 14) X dX11_force_13 rfl ?_
    refine g_sipush (n := 17) X dX11_force_14 (by decide +kernel) rfl ?_
    refine g_callSi (n := 20) (As := [gJ a, gJ 0, gJ 300]) (rest := []) (cs1 := 0) (ss1 := 0) X (s_X11_within a (by omega) 0 (by omega) 300 (by omega) hsz I C ) okX11_within kw_3_29 kw_3_30 ⟨rfl, rfl⟩ ⟨Nat.le_of_ble_eq_true rfl, Nat.le_of_ble_eq_true rfl⟩ rfl rfl (Nat.le_of_ble_eq_true rfl) ⟨Nat.le_of_ble_eq_true rfl, Nat.le_of_ble_eq_true rfl⟩ rfl rfl dX11_force_17 rfl (fun v5 M6 P7 => ?_)
    obtain ⟨rfl, rv5, xv5⟩ := P7
    refine g_if_ne (n := 23) (tgt := 26) X dX11_force_20 (by decide) (by omega) rfl (fun c8 => ?_) (fun c8 => ?_)
    · refine g_iload_n (n := 27) X 2 dX11_force_26 rfl rfl rfl ?_
      refine g_bipush (n := 29) X dX11_force_27 (by decide +kernel) rfl ?_
      refine g_icmp_ge (n := 32) (tgt := 44) X dX11_force_29 (by decide) (by omega) (by omega) rfl (fun c9 => ?_) (fun c9 => ?_)
      · refine g_aload_n (n := 45) X 0 dX11_force_44 rfl rfl rfl ?_
        refine gg_11_0 (n := 48) (z := 1) X (by decide) (gsz hsz (by decide)) lay_0 kw_2_231 dX11_force_45 rfl (rf_0_0 I (gsz hsz (by decide))) (by decide) ?_
        refine g_iload_n (n := 49) X 2 dX11_force_48 rfl rfl rfl ?_
        refine g_bipush (n := 51) X dX11_force_49 (by decide +kernel) rfl ?_
        refine g_isub (n := 52) (z := b - 10) X dX11_force_51 (by omega) rfl ?_
        refine g_iload_n (n := 53) X 1 dX11_force_52 rfl rfl rfl ?_
        refine g_callVi (n := 56) (As := [gJ (b - 10), gJ a]) (rest := []) (cs1 := 0) (ss1 := 0) X (s_X9_actInForce (b - 10) (by omega) a (by omega) hsz I C ) okX9_actInForce kw_4_92 ⟨kw_3_142, kw_3_143⟩ ⟨rfl, rfl⟩ ⟨Nat.le_of_ble_eq_true rfl, Nat.le_of_ble_eq_true rfl⟩ rfl (by decide) (gsz hsz (by decide)) lay_1 rfl rfl (Nat.le_of_ble_eq_true rfl) ⟨Nat.le_of_ble_eq_true rfl, Nat.le_of_ble_eq_true rfl⟩ rfl rfl dX11_force_53 rfl (fun v10 M11 P12 => ?_)
        obtain ⟨rfl, rv10⟩ := P12
        exact hq _ _ _ _ dX11_force_56 ⟨rfl, by omega⟩
      · refine g_aload_n (n := 33) X 0 dX11_force_32 rfl rfl rfl ?_
        refine gg_11_0 (n := 36) (z := 1) X (by decide) (gsz hsz (by decide)) lay_0 kw_2_231 dX11_force_33 rfl (rf_0_0 I (gsz hsz (by decide))) (by decide) ?_
        refine g_iload_n (n := 37) X 2 dX11_force_36 rfl rfl rfl ?_
        refine g_iload_n (n := 38) X 1 dX11_force_37 rfl rfl rfl ?_
        refine g_callVi (n := 41) (As := [gJ b, gJ a]) (rest := []) (cs1 := 0) (ss1 := 0) X (s_X9_law b (by omega) a (by omega) hsz I C ) okX9_law kw_4_91 ⟨kw_3_138, kw_3_139⟩ ⟨rfl, rfl⟩ ⟨Nat.le_of_ble_eq_true rfl, Nat.le_of_ble_eq_true rfl⟩ rfl (by decide) (gsz hsz (by decide)) lay_1 rfl rfl (Nat.le_of_ble_eq_true rfl) ⟨Nat.le_of_ble_eq_true rfl, Nat.le_of_ble_eq_true rfl⟩ rfl rfl dX11_force_38 rfl (fun v13 M14 P15 => ?_)
        obtain ⟨rfl, rv13⟩ := P15
        refine g_goto (tgt := 56) X dX11_force_41 (by decide) ?_
        exact hq _ _ _ _ dX11_force_56 ⟨rfl, by omega⟩
    · refine g_bipush (n := 25) X dX11_force_23 (by decide +kernel) rfl ?_
      exact hq _ _ _ _ dX11_force_25 ⟨rfl, by omega⟩
  · refine g_iconst (n := 11) X dX11_force_10 rfl ?_
    exact hq _ _ _ _ dX11_force_11 ⟨rfl, by omega⟩
theorem dX11_offer_0 : decode cX11_offer 0 = .ok (.aload_n 0, 1) := dc_42 (by decide +kernel)
theorem dX11_offer_1 : decode cX11_offer 1 = .ok (.iload_n 1, 1) := dc_27 (by decide +kernel)
theorem dX11_offer_2 : decode cX11_offer 2 = .ok (.invokevirtual 82, 3) := dc_182 0 82 (by decide +kernel)
theorem dX11_offer_5 : decode cX11_offer 5 = .ok (.ifCond .eq 12, 3) := dc_153 0 12 12 (by decide +kernel)
theorem dX11_offer_17 : decode cX11_offer 17 = .ok (.iconst (-1), 1) := dc_2 (by decide +kernel)
theorem dX11_offer_18 : decode cX11_offer 18 = .ok (.ireturn, 1) := dc_172 (by decide +kernel)
theorem dX11_offer_8 : decode cX11_offer 8 = .ok (.iload_n 2, 1) := dc_28 (by decide +kernel)
theorem dX11_offer_9 : decode cX11_offer 9 = .ok (.iconst 0, 1) := dc_3 (by decide +kernel)
theorem dX11_offer_10 : decode cX11_offer 10 = .ok (.iconst 1, 1) := dc_4 (by decide +kernel)
theorem dX11_offer_11 : decode cX11_offer 11 = .ok (.invokestatic 62, 3) := dc_184 0 62 (by decide +kernel)
theorem dX11_offer_14 : decode cX11_offer 14 = .ok (.ifCond .ne 5, 3) := dc_154 0 5 5 (by decide +kernel)
theorem dX11_offer_19 : decode cX11_offer 19 = .ok (.aload_n 0, 1) := dc_42 (by decide +kernel)
theorem dX11_offer_20 : decode cX11_offer 20 = .ok (.invokevirtual 231, 3) := dc_182 0 231 (by decide +kernel)
theorem kw_4_97 : (Jvm.Cond.methodLink "ParishUnion" (231 : Nat) ({ cls := "ParishUnion", name := "findHomes", desc := "()V" } : Jvm.MethodName)) ∈ gT := gT_of (tb_4 _ (List.mem_of_getElem? (i := 97) rfl)) rfl
theorem kw_4_100 : (Jvm.Cond.code ({ cls := "ParishUnion", name := "findHomes", desc := "()V" } : Jvm.MethodName) prog_1_method_58_code (2 : Nat) (Option.none : Option Jvm.ClassFile.FieldType)) ∈ gT := gT_of (tb_4 _ (List.mem_of_getElem? (i := 100) rfl)) rfl
theorem okX11_findHomes : gQok yX11_findHomes cX11_findHomes 2 (Option.none : Option Jvm.ClassFile.FieldType) 0 := ⟨kw_4_100, kw_1_1, by decide +kernel, by decide +kernel, by decide +kernel⟩
theorem kw_4_99 : (Jvm.Cond.instanceMethod ({ cls := "ParishUnion", name := "findHomes", desc := "()V" } : Jvm.MethodName)) ∈ gT := gT_of (tb_4 _ (List.mem_of_getElem? (i := 99) rfl)) rfl
theorem kw_0_17 : (Jvm.Cond.selects "ParishUnion" ({ cls := "ParishUnion", name := "findHomes", desc := "()V" } : Jvm.MethodName) ({ cls := "ParishUnion", name := "findHomes", desc := "()V" } : Jvm.MethodName)) ∈ gT := gT_of (tb_0 _ (List.mem_of_getElem? (i := 17) rfl)) rfl
theorem dX11_offer_23 : decode cX11_offer 23 = .ok (.aload_n 0, 1) := dc_42 (by decide +kernel)
theorem dX11_offer_24 : decode cX11_offer 24 = .ok (.getfield 10, 3) := dc_180 0 10 (by decide +kernel)
theorem dX11_offer_27 : decode cX11_offer 27 = .ok (.getfield 89, 3) := dc_180 0 89 (by decide +kernel)
theorem dX11_offer_30 : decode cX11_offer 30 = .ok (.iload_n 1, 1) := dc_27 (by decide +kernel)
theorem dX11_offer_31 : decode cX11_offer 31 = .ok (.aaload, 1) := dc_50 (by decide +kernel)
theorem dX11_offer_32 : decode cX11_offer 32 = .ok (.astore_n 3, 1) := dc_78 (by decide +kernel)
theorem dX11_offer_33 : decode cX11_offer 33 = .ok (.iload_n 2, 1) := dc_28 (by decide +kernel)
theorem dX11_offer_34 : decode cX11_offer 34 = .ok (.ifCond .ne 20, 3) := dc_154 0 20 20 (by decide +kernel)
theorem dX11_offer_54 : decode cX11_offer 54 = .ok (.aload_n 0, 1) := dc_42 (by decide +kernel)
theorem dX11_offer_55 : decode cX11_offer 55 = .ok (.getfield 10, 3) := dc_180 0 10 (by decide +kernel)
theorem dX11_offer_58 : decode cX11_offer 58 = .ok (.bipush 9, 2) := dc_16 9 9 (by decide +kernel)
theorem dX11_offer_60 : decode cX11_offer 60 = .ok (.aload_n 3, 1) := dc_45 (by decide +kernel)
theorem dX11_offer_61 : decode cX11_offer 61 = .ok (.invokevirtual 234, 3) := dc_182 0 234 (by decide +kernel)
theorem kw_4_101 : (Jvm.Cond.methodLink "ParishUnion" (234 : Nat) ({ cls := "ParishUnion$Union", name := "firstClause", desc := "(ILParishUnion$Person;)I" } : Jvm.MethodName)) ∈ gT := gT_of (tb_4 _ (List.mem_of_getElem? (i := 101) rfl)) rfl
theorem dX11_offer_64 : decode cX11_offer 64 = .ok (.ireturn, 1) := dc_172 (by decide +kernel)
theorem dX11_offer_37 : decode cX11_offer 37 = .ok (.iconst 0, 1) := dc_3 (by decide +kernel)
theorem dX11_offer_38 : decode cX11_offer 38 = .ok (.aload_n 0, 1) := dc_42 (by decide +kernel)
theorem dX11_offer_39 : decode cX11_offer 39 = .ok (.getfield 10, 3) := dc_180 0 10 (by decide +kernel)
theorem dX11_offer_42 : decode cX11_offer 42 = .ok (.bipush 8, 2) := dc_16 8 8 (by decide +kernel)
theorem dX11_offer_44 : decode cX11_offer 44 = .ok (.aload_n 3, 1) := dc_45 (by decide +kernel)
theorem dX11_offer_45 : decode cX11_offer 45 = .ok (.invokevirtual 234, 3) := dc_182 0 234 (by decide +kernel)
theorem dX11_offer_48 : decode cX11_offer 48 = .ok (.invokestatic 238, 3) := dc_184 0 238 (by decide +kernel)
theorem kw_4_125 : (Jvm.Cond.methodLink "ParishUnion" (238 : Nat) ({ cls := "java/lang/Math", name := "max", desc := "(II)I" } : Jvm.MethodName)) ∈ gT := gT_of (tb_4 _ (List.mem_of_getElem? (i := 125) rfl)) rfl
theorem dX11_offer_51 : decode cX11_offer 51 = .ok (.goto 13, 3) := dc_167 0 13 13 (by decide +kernel)
abbrev R_X11_offer : Room := { frames := 7, cells := 0, slots := 0, locals := 188 }
set_option maxRecDepth 100000 in
set_option maxHeartbeats 4000000 in
theorem s_X11_offer {l : Launch} {n0 : Nat} {D : va_G} {cA : Nat → ClassId} {M : gM} (a : Int) (r_a : -2147483648 ≤ a ∧ a ≤ 2147483647) (b : Int) (r_b : -2147483648 ≤ b ∧ b ≤ 2147483647) {sz : Nat} (hsz : 206 ≤ sz) (I : gI sz M) (C : gC sz M)   : Met l yX11_offer (gWsOf yX11_offer cX11_offer 4 (Option.some Jvm.ClassFile.FieldType.int)) R_X11_offer (gPc n0 D cA [gA n0 0, gJ a, gJ b] M sz) (gQi n0 D cA sz (fun z M1 => (-5 ≤ z ∧ z ≤ 2147483647) ∧ gI sz M1 ∧ gC sz M1 ∧ gFr 33554496 M M1)) 0 0 (fun q => n0 ≤ q) := by
  refine gMetI [gA n0 0, gJ a, gJ b] (by decide) (Nat.le_of_ble_eq_true rfl) ⟨rfl, rfl⟩ ?_
  intro p e s m args below meth cd Q X hq
  have X : gCx p s m args meth cd n0 D cA "ParishUnion" cX11_offer 4 := X
  show G p l e R_X11_offer s m args below meth cd n0 D cA 4 Q 0 0 M sz 0 [(0, gA n0 0), (1, gJ a), (2, gJ b)] []
  refine g_aload_n (n := 1) X 0 dX11_offer_0 rfl rfl rfl ?_
  refine g_iload_n (n := 2) X 1 dX11_offer_1 rfl rfl rfl ?_
  refine g_callVi (n := 5) (As := [gJ a]) (rest := []) (cs1 := 0) (ss1 := 0) X (s_X11_isPerson a (by omega) hsz I C ) okX11_isPerson kw_3_56 ⟨kw_3_58, kw_0_0⟩ ⟨rfl, rfl⟩ ⟨Nat.le_of_ble_eq_true rfl, Nat.le_of_ble_eq_true rfl⟩ rfl (by decide) (gsz hsz (by decide)) lay_0 rfl rfl (Nat.le_of_ble_eq_true rfl) ⟨Nat.le_of_ble_eq_true rfl, Nat.le_of_ble_eq_true rfl⟩ rfl rfl dX11_offer_2 rfl (fun v1 M2 P3 => ?_)
  obtain ⟨rfl, rv1, xv1⟩ := P3
  refine g_if_eq (n := 8) (tgt := 17) X dX11_offer_5 (by decide) (by omega) rfl (fun c4 => ?_) (fun c4 => ?_)
  · refine g_iconst (n := 18) X dX11_offer_17 rfl ?_
    exact hq _ _ _ _ dX11_offer_18 ⟨by omega, I, C, gFr.rf⟩
  · refine g_iload_n (n := 9) X 2 dX11_offer_8 rfl rfl rfl ?_
    refine g_iconst (n := 10) X dX11_offer_9 rfl ?_
    refine g_iconst (n := 11) X dX11_offer_10 rfl ?_
    refine g_callSi (n := 14) (As := [gJ b, gJ 0, gJ 1]) (rest := []) (cs1 := 0) (ss1 := 0) X (s_X11_within b (by omega) 0 (by omega) 1 (by omega) hsz I C ) okX11_within kw_3_29 kw_3_30 ⟨rfl, rfl⟩ ⟨Nat.le_of_ble_eq_true rfl, Nat.le_of_ble_eq_true rfl⟩ rfl rfl (Nat.le_of_ble_eq_true rfl) ⟨Nat.le_of_ble_eq_true rfl, Nat.le_of_ble_eq_true rfl⟩ rfl rfl dX11_offer_11 rfl (fun v5 M6 P7 => ?_)
    obtain ⟨rfl, rv5, xv5⟩ := P7
    refine g_if_ne (n := 17) (tgt := 19) X dX11_offer_14 (by decide) (by omega) rfl (fun c8 => ?_) (fun c8 => ?_)
    · refine g_aload_n (n := 20) X 0 dX11_offer_19 rfl rfl rfl ?_
      refine g_callVv (n := 23) (As := []) (rest := []) (cs1 := 0) (ss1 := 0) X (s_X11_findHomes  hsz I C ) okX11_findHomes kw_4_97 ⟨kw_4_99, kw_0_17⟩ ⟨rfl, rfl⟩ ⟨Nat.le_of_ble_eq_true rfl, Nat.le_of_ble_eq_true rfl⟩ rfl (by decide) (gsz hsz (by decide)) lay_0 rfl rfl (Nat.le_of_ble_eq_true rfl) ⟨Nat.le_of_ble_eq_true rfl, Nat.le_of_ble_eq_true rfl⟩ rfl rfl dX11_offer_20 rfl (fun M10 P11 => ?_)
      obtain ⟨IM10, CM10, FM10⟩ := P11
      refine g_aload_n (n := 24) X 0 dX11_offer_23 rfl rfl rfl ?_
      refine gg_11_0 (n := 27) (z := 1) X (by decide) (gsz hsz (by decide)) lay_0 kw_2_231 dX11_offer_24 rfl (rf_0_0 IM10 (gsz hsz (by decide))) (by decide) ?_
      refine gg_9_1 (n := 30) (z := 5) X (by decide) (gsz hsz (by decide)) lay_1 kw_2_108 dX11_offer_27 rfl (rf_1_1 IM10 (gsz hsz (by decide))) (by decide) ?_
      refine g_iload_n (n := 31) X 1 dX11_offer_30 rfl rfl rfl ?_
      obtain ⟨o12, ho12, ro12⟩ : ∃ o : Int, o = 31 + a ∧ (31 ≤ o ∧ o < 47) := ⟨_, rfl, by omega⟩
      refine g_aald6 (n := 32) (t := o12) X (by decide) (gsz hsz (by decide)) lay_5 (by omega) (by omega) (by decide) (gA5 IM10 hsz (by omega) (by omega) (by omega)) (by omega) dX11_offer_31 rfl ?_
      refine g_astore_n (n := 33) (L' := [(3, gA n0 o12), (0, gA n0 0), (1, gJ a), (2, gJ b)]) X dX11_offer_32 rfl (by decide) rfl rfl ?_
      refine g_iload_n (n := 34) X 3 dX11_offer_33 rfl rfl rfl ?_
      refine g_if_ne (n := 37) (tgt := 54) X dX11_offer_34 (by decide) (by omega) rfl (fun c13 => ?_) (fun c13 => ?_)
      · refine g_aload_n (n := 55) X 1 dX11_offer_54 rfl rfl rfl ?_
        refine gg_11_0 (n := 58) (z := 1) X (by decide) (gsz hsz (by decide)) lay_0 kw_2_231 dX11_offer_55 rfl (rf_0_0 IM10 (gsz hsz (by decide))) (by decide) ?_
        refine g_bipush (n := 60) X dX11_offer_58 (by decide +kernel) rfl ?_
        refine g_aload_n (n := 61) X 0 dX11_offer_60 rfl rfl rfl ?_
        refine g_callVi (n := 64) (As := [gJ 9, gA n0 o12]) (rest := []) (cs1 := 0) (ss1 := 0) X (s_X9_firstClause 9 (by omega) o12 ro12 hsz IM10 CM10 ) okX9_firstClause kw_4_101 ⟨kw_4_102, kw_4_103⟩ ⟨rfl, rfl⟩ ⟨Nat.le_of_ble_eq_true rfl, Nat.le_of_ble_eq_true rfl⟩ rfl (by decide) (gsz hsz (by decide)) lay_1 rfl rfl (Nat.le_of_ble_eq_true rfl) ⟨Nat.le_of_ble_eq_true rfl, Nat.le_of_ble_eq_true rfl⟩ rfl rfl dX11_offer_61 rfl (fun v14 M15 P16 => ?_)
        obtain ⟨rfl, rv14, xv14⟩ := P16
        exact hq _ _ _ _ dX11_offer_64 ⟨by omega, IM10, CM10, (gFr.c gFr.rf FM10 rfl)⟩
      · refine g_iconst (n := 38) X dX11_offer_37 rfl ?_
        refine g_aload_n (n := 39) X 1 dX11_offer_38 rfl rfl rfl ?_
        refine gg_11_0 (n := 42) (z := 1) X (by decide) (gsz hsz (by decide)) lay_0 kw_2_231 dX11_offer_39 rfl (rf_0_0 IM10 (gsz hsz (by decide))) (by decide) ?_
        refine g_bipush (n := 44) X dX11_offer_42 (by decide +kernel) rfl ?_
        refine g_aload_n (n := 45) X 0 dX11_offer_44 rfl rfl rfl ?_
        refine g_callVi (n := 48) (As := [gJ 8, gA n0 o12]) (rest := [gJ 0]) (cs1 := 0) (ss1 := 0) X (s_X9_firstClause 8 (by omega) o12 ro12 hsz IM10 CM10 ) okX9_firstClause kw_4_101 ⟨kw_4_102, kw_4_103⟩ ⟨rfl, rfl⟩ ⟨Nat.le_of_ble_eq_true rfl, Nat.le_of_ble_eq_true rfl⟩ rfl (by decide) (gsz hsz (by decide)) lay_1 rfl rfl (Nat.le_of_ble_eq_true rfl) ⟨Nat.le_of_ble_eq_true rfl, Nat.le_of_ble_eq_true rfl⟩ rfl rfl dX11_offer_45 rfl (fun v17 M18 P19 => ?_)
        obtain ⟨rfl, rv17, xv17⟩ := P19
        refine g_mmax (n := 51) X kw_4_125 kw_3_153 kw_1_14 kw_3_154 (by omega) (by omega) (Nat.le_of_ble_eq_true rfl) (Nat.le_of_ble_eq_true rfl) (Nat.le_of_ble_eq_true rfl) (Nat.le_of_ble_eq_true rfl) dX11_offer_48 rfl (fun x20 hx20 => ?_)
        have rx20 : 0 ≤ x20 ∧ x20 ≤ 2147483647 := by omega
        refine g_goto (tgt := 64) X dX11_offer_51 (by decide) ?_
        exact hq _ _ _ _ dX11_offer_64 ⟨by omega, IM10, CM10, (gFr.c gFr.rf FM10 rfl)⟩
    · refine g_iconst (n := 18) X dX11_offer_17 rfl ?_
      exact hq _ _ _ _ dX11_offer_18 ⟨by omega, I, C, gFr.rf⟩
theorem dX11_order_0 : decode cX11_order 0 = .ok (.aload_n 0, 1) := dc_42 (by decide +kernel)
theorem dX11_order_1 : decode cX11_order 1 = .ok (.iload_n 1, 1) := dc_27 (by decide +kernel)
theorem dX11_order_2 : decode cX11_order 2 = .ok (.invokevirtual 82, 3) := dc_182 0 82 (by decide +kernel)
theorem dX11_order_5 : decode cX11_order 5 = .ok (.ifCond .eq 10, 3) := dc_153 0 10 10 (by decide +kernel)
theorem dX11_order_15 : decode cX11_order 15 = .ok (.iconst (-1), 1) := dc_2 (by decide +kernel)
theorem dX11_order_16 : decode cX11_order 16 = .ok (.ireturn, 1) := dc_172 (by decide +kernel)
theorem dX11_order_8 : decode cX11_order 8 = .ok (.iload_n 2, 1) := dc_28 (by decide +kernel)
theorem dX11_order_9 : decode cX11_order 9 = .ok (.invokestatic 58, 3) := dc_184 0 58 (by decide +kernel)
theorem dX11_order_12 : decode cX11_order 12 = .ok (.ifCond .ne 5, 3) := dc_154 0 5 5 (by decide +kernel)
theorem dX11_order_17 : decode cX11_order 17 = .ok (.aload_n 0, 1) := dc_42 (by decide +kernel)
theorem dX11_order_18 : decode cX11_order 18 = .ok (.getfield 10, 3) := dc_180 0 10 (by decide +kernel)
theorem dX11_order_21 : decode cX11_order 21 = .ok (.getfield 89, 3) := dc_180 0 89 (by decide +kernel)
theorem dX11_order_24 : decode cX11_order 24 = .ok (.iload_n 1, 1) := dc_27 (by decide +kernel)
theorem dX11_order_25 : decode cX11_order 25 = .ok (.aaload, 1) := dc_50 (by decide +kernel)
theorem dX11_order_26 : decode cX11_order 26 = .ok (.astore_n 3, 1) := dc_78 (by decide +kernel)
theorem dX11_order_27 : decode cX11_order 27 = .ok (.aload_n 3, 1) := dc_45 (by decide +kernel)
theorem dX11_order_28 : decode cX11_order 28 = .ok (.getfield 114, 3) := dc_180 0 114 (by decide +kernel)
theorem dX11_order_31 : decode cX11_order 31 = .ok (.iload_n 2, 1) := dc_28 (by decide +kernel)
theorem dX11_order_32 : decode cX11_order 32 = .ok (.if_icmp .ne 6, 3) := dc_160 0 6 6 (by decide +kernel)
theorem dX11_order_38 : decode cX11_order 38 = .ok (.aload_n 3, 1) := dc_45 (by decide +kernel)
theorem dX11_order_39 : decode cX11_order 39 = .ok (.invokevirtual 243, 3) := dc_182 0 243 (by decide +kernel)
theorem kw_4_130 : (Jvm.Cond.methodLink "ParishUnion" (243 : Nat) ({ cls := "ParishUnion$Person", name := "isAtParish", desc := "()Z" } : Jvm.MethodName)) ∈ gT := gT_of (tb_4 _ (List.mem_of_getElem? (i := 130) rfl)) rfl
theorem dX11_order_42 : decode cX11_order 42 = .ok (.ifCond .ne 6, 3) := dc_154 0 6 6 (by decide +kernel)
theorem dX11_order_48 : decode cX11_order 48 = .ok (.aload_n 0, 1) := dc_42 (by decide +kernel)
theorem dX11_order_49 : decode cX11_order 49 = .ok (.getfield 10, 3) := dc_180 0 10 (by decide +kernel)
theorem dX11_order_52 : decode cX11_order 52 = .ok (.getfield 247, 3) := dc_180 0 247 (by decide +kernel)
theorem dX11_order_55 : decode cX11_order 55 = .ok (.getfield 251, 3) := dc_180 0 251 (by decide +kernel)
theorem dX11_order_58 : decode cX11_order 58 = .ok (.bipush 20, 2) := dc_16 20 20 (by decide +kernel)
theorem dX11_order_60 : decode cX11_order 60 = .ok (.if_icmp .lt 6, 3) := dc_161 0 6 6 (by decide +kernel)
theorem dX11_order_66 : decode cX11_order 66 = .ok (.aload_n 0, 1) := dc_42 (by decide +kernel)
theorem dX11_order_67 : decode cX11_order 67 = .ok (.getfield 10, 3) := dc_180 0 10 (by decide +kernel)
theorem dX11_order_70 : decode cX11_order 70 = .ok (.getfield 247, 3) := dc_180 0 247 (by decide +kernel)
theorem dX11_order_73 : decode cX11_order 73 = .ok (.iload_n 1, 1) := dc_27 (by decide +kernel)
theorem dX11_order_74 : decode cX11_order 74 = .ok (.aload_n 3, 1) := dc_45 (by decide +kernel)
theorem dX11_order_75 : decode cX11_order 75 = .ok (.getfield 114, 3) := dc_180 0 114 (by decide +kernel)
theorem dX11_order_78 : decode cX11_order 78 = .ok (.iload_n 2, 1) := dc_28 (by decide +kernel)
theorem dX11_order_79 : decode cX11_order 79 = .ok (.aload_n 0, 1) := dc_42 (by decide +kernel)
theorem dX11_order_80 : decode cX11_order 80 = .ok (.getfield 10, 3) := dc_180 0 10 (by decide +kernel)
theorem dX11_order_83 : decode cX11_order 83 = .ok (.getfield 85, 3) := dc_180 0 85 (by decide +kernel)
theorem dX11_order_86 : decode cX11_order 86 = .ok (.invokevirtual 256, 3) := dc_182 1 0 (by decide +kernel)
theorem kw_4_131 : (Jvm.Cond.methodLink "ParishUnion" (256 : Nat) ({ cls := "ParishUnion$Orders", name := "write", desc := "(IIII)I" } : Jvm.MethodName)) ∈ gT := gT_of (tb_4 _ (List.mem_of_getElem? (i := 131) rfl)) rfl
theorem kw_4_134 : (Jvm.Cond.code ({ cls := "ParishUnion$Orders", name := "write", desc := "(IIII)I" } : Jvm.MethodName) prog_6_method_3_code (5 : Nat) (Option.some Jvm.ClassFile.FieldType.int)) ∈ gT := gT_of (tb_4 _ (List.mem_of_getElem? (i := 134) rfl)) rfl
theorem kw_1_4 : (Jvm.Cond.initialized "ParishUnion$Orders") ∈ gT := gT_of (tb_1 _ (List.mem_of_getElem? (i := 4) rfl)) rfl
theorem okX4_write : gQok yX4_write cX4_write 5 (Option.some Jvm.ClassFile.FieldType.int) 4 := ⟨kw_4_134, kw_1_4, by decide +kernel, by decide +kernel, by decide +kernel⟩
theorem kw_4_132 : (Jvm.Cond.instanceMethod ({ cls := "ParishUnion$Orders", name := "write", desc := "(IIII)I" } : Jvm.MethodName)) ∈ gT := gT_of (tb_4 _ (List.mem_of_getElem? (i := 132) rfl)) rfl
theorem kw_4_133 : (Jvm.Cond.selects "ParishUnion$Orders" ({ cls := "ParishUnion$Orders", name := "write", desc := "(IIII)I" } : Jvm.MethodName) ({ cls := "ParishUnion$Orders", name := "write", desc := "(IIII)I" } : Jvm.MethodName)) ∈ gT := gT_of (tb_4 _ (List.mem_of_getElem? (i := 133) rfl)) rfl
theorem dX11_order_89 : decode cX11_order 89 = .ok (.ireturn, 1) := dc_172 (by decide +kernel)
theorem dX11_order_63 : decode cX11_order 63 = .ok (.bipush (-4), 2) := dc_16 252 (-4) (by decide +kernel)
theorem dX11_order_65 : decode cX11_order 65 = .ok (.ireturn, 1) := dc_172 (by decide +kernel)
theorem dX11_order_45 : decode cX11_order 45 = .ok (.bipush (-3), 2) := dc_16 253 (-3) (by decide +kernel)
theorem dX11_order_47 : decode cX11_order 47 = .ok (.ireturn, 1) := dc_172 (by decide +kernel)
theorem dX11_order_35 : decode cX11_order 35 = .ok (.bipush (-2), 2) := dc_16 254 (-2) (by decide +kernel)
theorem dX11_order_37 : decode cX11_order 37 = .ok (.ireturn, 1) := dc_172 (by decide +kernel)
abbrev R_X11_order : Room := { frames := 2, cells := 0, slots := 0, locals := 43 }
set_option maxRecDepth 100000 in
set_option maxHeartbeats 4000000 in
theorem s_X11_order {l : Launch} {n0 : Nat} {D : va_G} {cA : Nat → ClassId} {M : gM} (a : Int) (r_a : -2147483648 ≤ a ∧ a ≤ 2147483647) (b : Int) (r_b : -2147483648 ≤ b ∧ b ≤ 2147483647) {sz : Nat} (hsz : 206 ≤ sz) (I : gI sz M) (C : gC sz M)   : Met l yX11_order (gWsOf yX11_order cX11_order 4 (Option.some Jvm.ClassFile.FieldType.int)) R_X11_order (gPc n0 D cA [gA n0 0, gJ a, gJ b] M sz) (gQi n0 D cA sz (fun z M1 => (-4 ≤ z ∧ z ≤ 20) ∧ gI sz M1 ∧ gC sz M1 ∧ gFr 1024 M M1)) 0 0 (fun q => n0 ≤ q) := by
  refine gMetI [gA n0 0, gJ a, gJ b] (by decide) (Nat.le_of_ble_eq_true rfl) ⟨rfl, rfl⟩ ?_
  intro p e s m args below meth cd Q X hq
  have X : gCx p s m args meth cd n0 D cA "ParishUnion" cX11_order 4 := X
  show G p l e R_X11_order s m args below meth cd n0 D cA 4 Q 0 0 M sz 0 [(0, gA n0 0), (1, gJ a), (2, gJ b)] []
  refine g_aload_n (n := 1) X 0 dX11_order_0 rfl rfl rfl ?_
  refine g_iload_n (n := 2) X 1 dX11_order_1 rfl rfl rfl ?_
  refine g_callVi (n := 5) (As := [gJ a]) (rest := []) (cs1 := 0) (ss1 := 0) X (s_X11_isPerson a (by omega) hsz I C ) okX11_isPerson kw_3_56 ⟨kw_3_58, kw_0_0⟩ ⟨rfl, rfl⟩ ⟨Nat.le_of_ble_eq_true rfl, Nat.le_of_ble_eq_true rfl⟩ rfl (by decide) (gsz hsz (by decide)) lay_0 rfl rfl (Nat.le_of_ble_eq_true rfl) ⟨Nat.le_of_ble_eq_true rfl, Nat.le_of_ble_eq_true rfl⟩ rfl rfl dX11_order_2 rfl (fun v1 M2 P3 => ?_)
  obtain ⟨rfl, rv1, xv1⟩ := P3
  refine g_if_eq (n := 8) (tgt := 15) X dX11_order_5 (by decide) (by omega) rfl (fun c4 => ?_) (fun c4 => ?_)
  · refine g_iconst (n := 16) X dX11_order_15 rfl ?_
    exact hq _ _ _ _ dX11_order_16 ⟨by omega, I, C, gFr.rf⟩
  · refine g_iload_n (n := 9) X 2 dX11_order_8 rfl rfl rfl ?_
    refine g_callSi (n := 12) (As := [gJ b]) (rest := []) (cs1 := 0) (ss1 := 0) X (s_X11_isParish b (by omega) hsz I C ) okX11_isParish kw_3_26 kw_3_27 ⟨rfl, rfl⟩ ⟨Nat.le_of_ble_eq_true rfl, Nat.le_of_ble_eq_true rfl⟩ rfl rfl (Nat.le_of_ble_eq_true rfl) ⟨Nat.le_of_ble_eq_true rfl, Nat.le_of_ble_eq_true rfl⟩ rfl rfl dX11_order_9 rfl (fun v5 M6 P7 => ?_)
    obtain ⟨rfl, rv5, xv5⟩ := P7
    refine g_if_ne (n := 15) (tgt := 17) X dX11_order_12 (by decide) (by omega) rfl (fun c8 => ?_) (fun c8 => ?_)
    · refine g_aload_n (n := 18) X 0 dX11_order_17 rfl rfl rfl ?_
      refine gg_11_0 (n := 21) (z := 1) X (by decide) (gsz hsz (by decide)) lay_0 kw_2_231 dX11_order_18 rfl (rf_0_0 I (gsz hsz (by decide))) (by decide) ?_
      refine gg_9_1 (n := 24) (z := 5) X (by decide) (gsz hsz (by decide)) lay_1 kw_2_108 dX11_order_21 rfl (rf_1_1 I (gsz hsz (by decide))) (by decide) ?_
      refine g_iload_n (n := 25) X 1 dX11_order_24 rfl rfl rfl ?_
      obtain ⟨o9, ho9, ro9⟩ : ∃ o : Int, o = 31 + a ∧ (31 ≤ o ∧ o < 47) := ⟨_, rfl, by omega⟩
      refine g_aald6 (n := 26) (t := o9) X (by decide) (gsz hsz (by decide)) lay_5 (by omega) (by omega) (by decide) (gA5 I hsz (by omega) (by omega) (by omega)) (by omega) dX11_order_25 rfl ?_
      refine g_astore_n (n := 27) (L' := [(3, gA n0 o9), (0, gA n0 0), (1, gJ a), (2, gJ b)]) X dX11_order_26 rfl (by decide) rfl rfl ?_
      refine g_aload_n (n := 28) X 0 dX11_order_27 rfl rfl rfl ?_
      obtain ⟨v10, hv10, rv10⟩ := gRd I (Po0 ro9) (Posz hsz ro9) (rP_5 ro9).1
      refine gg_6_5 (n := 31) (z := v10) X (Po0 ro9) (Posz hsz ro9) (lay2_P ro9) kw_1_193 dX11_order_28 rfl hv10 ?_
      refine g_iload_n (n := 32) X 3 dX11_order_31 rfl rfl rfl ?_
      refine g_icmp_ne (n := 35) (tgt := 38) X dX11_order_32 (by decide) (by omega) (by omega) rfl (fun c11 => ?_) (fun c11 => ?_)
      · refine g_aload_n (n := 39) X 0 dX11_order_38 rfl rfl rfl ?_
        refine g_callVi (n := 42) (As := []) (rest := []) (cs1 := 0) (ss1 := 0) X (s_X6_isAtParish o9 ro9 hsz I C ) okX6_isAtParish kw_4_130 ⟨kw_4_122, kw_4_123⟩ ⟨rfl, rfl⟩ ⟨Nat.le_of_ble_eq_true rfl, Nat.le_of_ble_eq_true rfl⟩ rfl (Po0 ro9) (Posz hsz ro9) (lay2_P ro9) rfl rfl (Nat.le_of_ble_eq_true rfl) ⟨Nat.le_of_ble_eq_true rfl, Nat.le_of_ble_eq_true rfl⟩ rfl rfl dX11_order_39 rfl (fun v12 M13 P14 => ?_)
        obtain ⟨rfl, rv12, xv12⟩ := P14
        refine g_if_ne (n := 45) (tgt := 48) X dX11_order_42 (by decide) (by omega) rfl (fun c15 => ?_) (fun c15 => ?_)
        · refine g_aload_n (n := 49) X 1 dX11_order_48 rfl rfl rfl ?_
          refine gg_11_0 (n := 52) (z := 1) X (by decide) (gsz hsz (by decide)) lay_0 kw_2_231 dX11_order_49 rfl (rf_0_0 I (gsz hsz (by decide))) (by decide) ?_
          refine gg_9_5 (n := 55) (z := 9) X (by decide) (gsz hsz (by decide)) lay_1 kw_2_117 dX11_order_52 rfl (rf_1_5 I (gsz hsz (by decide))) (by decide) ?_
          obtain ⟨v16, hv16, rv16⟩ := gRd I (by decide) (gsz hsz (by decide)) rc_9_5.1
          refine gg_4_5 (n := 58) (z := v16) X (by decide) (gsz hsz (by decide)) lay_9 kw_1_73 dX11_order_55 rfl hv16 ?_
          refine g_bipush (n := 60) X dX11_order_58 (by decide +kernel) rfl ?_
          refine g_icmp_lt (n := 63) (tgt := 66) X dX11_order_60 (by decide) (by omega) (by omega) rfl (fun c17 => ?_) (fun c17 => ?_)
          · refine g_aload_n (n := 67) X 1 dX11_order_66 rfl rfl rfl ?_
            refine gg_11_0 (n := 70) (z := 1) X (by decide) (gsz hsz (by decide)) lay_0 kw_2_231 dX11_order_67 rfl (rf_0_0 I (gsz hsz (by decide))) (by decide) ?_
            refine gg_9_5 (n := 73) (z := 9) X (by decide) (gsz hsz (by decide)) lay_1 kw_2_117 dX11_order_70 rfl (rf_1_5 I (gsz hsz (by decide))) (by decide) ?_
            refine g_iload_n (n := 74) X 2 dX11_order_73 rfl rfl rfl ?_
            refine g_aload_n (n := 75) X 0 dX11_order_74 rfl rfl rfl ?_
            refine gg_6_5 (n := 78) (z := v10) X (Po0 ro9) (Posz hsz ro9) (lay2_P ro9) kw_1_193 dX11_order_75 rfl hv10 ?_
            refine g_iload_n (n := 79) X 3 dX11_order_78 rfl rfl rfl ?_
            refine g_aload_n (n := 80) X 1 dX11_order_79 rfl rfl rfl ?_
            refine gg_11_0 (n := 83) (z := 1) X (by decide) (gsz hsz (by decide)) lay_0 kw_2_231 dX11_order_80 rfl (rf_0_0 I (gsz hsz (by decide))) (by decide) ?_
            obtain ⟨v18, hv18, rv18⟩ := gRd I (by decide) (gsz hsz (by decide)) rc_1_15.1
            refine gg_9_15 (n := 86) (z := v18) X (by decide) (gsz hsz (by decide)) lay_1 kw_2_139 dX11_order_83 rfl hv18 ?_
            refine g_callVi (n := 89) (As := [gJ a, gJ v10, gJ b, gJ v18]) (rest := []) (cs1 := 0) (ss1 := 0) X (s_X4_write a (by omega) v10 (by omega) b (by omega) v18 (by omega) hsz I C (by have := hv16; omega)) okX4_write kw_4_131 ⟨kw_4_132, kw_4_133⟩ ⟨rfl, rfl⟩ ⟨Nat.le_of_ble_eq_true rfl, Nat.le_of_ble_eq_true rfl⟩ rfl (by decide) (gsz hsz (by decide)) lay_9 rfl rfl (Nat.le_of_ble_eq_true rfl) ⟨Nat.le_of_ble_eq_true rfl, Nat.le_of_ble_eq_true rfl⟩ rfl rfl dX11_order_86 rfl (fun v19 M20 P21 => ?_)
            obtain ⟨v22, hv22, rv22, M23, e24, M25, e26, M27, e28, M29, e30, M31, e32, M33, e34, xv19, rfl⟩ := P21
            have IM23 : gI sz M23 := gI.set I (ra_10 v22).1 (by omega) e24
            have CM23 : gC sz M23 := gC.set C (ra_10 v22).2.1 e24
            have IM25 : gI sz M25 := gI.set IM23 (ra_11 v22).1 (by omega) e26
            have CM25 : gC sz M25 := gC.set CM23 (ra_11 v22).2.1 e26
            have IM27 : gI sz M27 := gI.set IM25 (ra_12 v22).1 (by omega) e28
            have CM27 : gC sz M27 := gC.set CM25 (ra_12 v22).2.1 e28
            have IM29 : gI sz M29 := gI.set IM27 (ra_13 v22).1 (by omega) e30
            have CM29 : gC sz M29 := gC.set CM27 (ra_13 v22).2.1 e30
            have IM31 : gI sz M31 := gI.set IM29 (ra_14 v22).1 (by omega) e32
            have CM31 : gC sz M31 := gC.set CM29 (ra_14 v22).2.1 e32
            have IM33 : gI sz M33 := gI.set IM31 rc_9_5.1 (by omega) e34
            have CM33 : gC sz M33 := gC.set CM31 rc_9_5.2.1 e34
            exact hq _ _ _ _ dX11_order_89 ⟨by omega, IM33, CM33, (gFr.s (gFr.s (gFr.s (gFr.s (gFr.s (gFr.s gFr.rf e24 (ra_10 v22).2.2 rfl) e26 (ra_11 v22).2.2 rfl) e28 (ra_12 v22).2.2 rfl) e30 (ra_13 v22).2.2 rfl) e32 (ra_14 v22).2.2 rfl) e34 rc_9_5.2.2 rfl)⟩
          · refine g_bipush (n := 65) X dX11_order_63 (by decide +kernel) rfl ?_
            exact hq _ _ _ _ dX11_order_65 ⟨by omega, I, C, gFr.rf⟩
        · refine g_bipush (n := 47) X dX11_order_45 (by decide +kernel) rfl ?_
          exact hq _ _ _ _ dX11_order_47 ⟨by omega, I, C, gFr.rf⟩
      · refine g_bipush (n := 37) X dX11_order_35 (by decide +kernel) rfl ?_
        exact hq _ _ _ _ dX11_order_37 ⟨by omega, I, C, gFr.rf⟩
    · refine g_iconst (n := 16) X dX11_order_15 rfl ?_
      exact hq _ _ _ _ dX11_order_16 ⟨by omega, I, C, gFr.rf⟩
theorem dX11_appeal_0 : decode cX11_appeal 0 = .ok (.aload_n 0, 1) := dc_42 (by decide +kernel)
theorem dX11_appeal_1 : decode cX11_appeal 1 = .ok (.iload_n 1, 1) := dc_27 (by decide +kernel)
theorem dX11_appeal_2 : decode cX11_appeal 2 = .ok (.invokevirtual 260, 3) := dc_182 1 4 (by decide +kernel)
theorem kw_4_139 : (Jvm.Cond.methodLink "ParishUnion" (260 : Nat) ({ cls := "ParishUnion", name := "isOrder", desc := "(I)Z" } : Jvm.MethodName)) ∈ gT := gT_of (tb_4 _ (List.mem_of_getElem? (i := 139) rfl)) rfl
theorem kw_4_142 : (Jvm.Cond.code ({ cls := "ParishUnion", name := "isOrder", desc := "(I)Z" } : Jvm.MethodName) prog_1_method_53_code (2 : Nat) (Option.some Jvm.ClassFile.FieldType.boolean)) ∈ gT := gT_of (tb_4 _ (List.mem_of_getElem? (i := 142) rfl)) rfl
theorem okX11_isOrder : gQok yX11_isOrder cX11_isOrder 2 (Option.some Jvm.ClassFile.FieldType.boolean) 1 := ⟨kw_4_142, kw_1_1, by decide +kernel, by decide +kernel, by decide +kernel⟩
theorem kw_4_141 : (Jvm.Cond.instanceMethod ({ cls := "ParishUnion", name := "isOrder", desc := "(I)Z" } : Jvm.MethodName)) ∈ gT := gT_of (tb_4 _ (List.mem_of_getElem? (i := 141) rfl)) rfl
theorem kw_0_20 : (Jvm.Cond.selects "ParishUnion" ({ cls := "ParishUnion", name := "isOrder", desc := "(I)Z" } : Jvm.MethodName) ({ cls := "ParishUnion", name := "isOrder", desc := "(I)Z" } : Jvm.MethodName)) ∈ gT := gT_of (tb_0 _ (List.mem_of_getElem? (i := 20) rfl)) rfl
theorem dX11_appeal_5 : decode cX11_appeal 5 = .ok (.ifCond .eq 18, 3) := dc_153 0 18 18 (by decide +kernel)
theorem dX11_appeal_23 : decode cX11_appeal 23 = .ok (.iconst (-1), 1) := dc_2 (by decide +kernel)
theorem dX11_appeal_24 : decode cX11_appeal 24 = .ok (.ireturn, 1) := dc_172 (by decide +kernel)
theorem dX11_appeal_8 : decode cX11_appeal 8 = .ok (.iload_n 2, 1) := dc_28 (by decide +kernel)
theorem dX11_appeal_9 : decode cX11_appeal 9 = .ok (.invokestatic 184, 3) := dc_184 0 184 (by decide +kernel)
theorem dX11_appeal_12 : decode cX11_appeal 12 = .ok (.ifCond .eq 11, 3) := dc_153 0 11 11 (by decide +kernel)
theorem dX11_appeal_15 : decode cX11_appeal 15 = .ok (.aload_n 0, 1) := dc_42 (by decide +kernel)
theorem dX11_appeal_16 : decode cX11_appeal 16 = .ok (.iload_n 3, 1) := dc_29 (by decide +kernel)
theorem dX11_appeal_17 : decode cX11_appeal 17 = .ok (.invokevirtual 187, 3) := dc_182 0 187 (by decide +kernel)
theorem dX11_appeal_20 : decode cX11_appeal 20 = .ok (.ifCond .ne 5, 3) := dc_154 0 5 5 (by decide +kernel)
theorem dX11_appeal_25 : decode cX11_appeal 25 = .ok (.aload_n 0, 1) := dc_42 (by decide +kernel)
theorem dX11_appeal_26 : decode cX11_appeal 26 = .ok (.getfield 19, 3) := dc_180 0 19 (by decide +kernel)
theorem dX11_appeal_29 : decode cX11_appeal 29 = .ok (.aload_n 0, 1) := dc_42 (by decide +kernel)
theorem dX11_appeal_30 : decode cX11_appeal 30 = .ok (.getfield 10, 3) := dc_180 0 10 (by decide +kernel)
theorem dX11_appeal_33 : decode cX11_appeal 33 = .ok (.iload_n 3, 1) := dc_29 (by decide +kernel)
theorem dX11_appeal_34 : decode cX11_appeal 34 = .ok (.invokevirtual 190, 3) := dc_182 0 190 (by decide +kernel)
theorem dX11_appeal_37 : decode cX11_appeal 37 = .ok (.aload_n 0, 1) := dc_42 (by decide +kernel)
theorem dX11_appeal_38 : decode cX11_appeal 38 = .ok (.iload_n 1, 1) := dc_27 (by decide +kernel)
theorem dX11_appeal_39 : decode cX11_appeal 39 = .ok (.iload_n 2, 1) := dc_28 (by decide +kernel)
theorem dX11_appeal_40 : decode cX11_appeal 40 = .ok (.invokevirtual 263, 3) := dc_182 1 7 (by decide +kernel)
theorem kw_4_143 : (Jvm.Cond.methodLink "ParishUnion" (263 : Nat) ({ cls := "ParishUnion", name := "stands", desc := "(II)Z" } : Jvm.MethodName)) ∈ gT := gT_of (tb_4 _ (List.mem_of_getElem? (i := 143) rfl)) rfl
theorem kw_4_146 : (Jvm.Cond.code ({ cls := "ParishUnion", name := "stands", desc := "(II)Z" } : Jvm.MethodName) prog_1_method_57_code (4 : Nat) (Option.some Jvm.ClassFile.FieldType.boolean)) ∈ gT := gT_of (tb_4 _ (List.mem_of_getElem? (i := 146) rfl)) rfl
theorem okX11_stands : gQok yX11_stands cX11_stands 4 (Option.some Jvm.ClassFile.FieldType.boolean) 2 := ⟨kw_4_146, kw_1_1, by decide +kernel, by decide +kernel, by decide +kernel⟩
theorem kw_4_145 : (Jvm.Cond.instanceMethod ({ cls := "ParishUnion", name := "stands", desc := "(II)Z" } : Jvm.MethodName)) ∈ gT := gT_of (tb_4 _ (List.mem_of_getElem? (i := 145) rfl)) rfl
theorem kw_0_21 : (Jvm.Cond.selects "ParishUnion" ({ cls := "ParishUnion", name := "stands", desc := "(II)Z" } : Jvm.MethodName) ({ cls := "ParishUnion", name := "stands", desc := "(II)Z" } : Jvm.MethodName)) ∈ gT := gT_of (tb_0 _ (List.mem_of_getElem? (i := 21) rfl)) rfl
theorem dX11_appeal_43 : decode cX11_appeal 43 = .ok (.ifCond .eq 7, 3) := dc_153 0 7 7 (by decide +kernel)
theorem dX11_appeal_50 : decode cX11_appeal 50 = .ok (.iconst 0, 1) := dc_3 (by decide +kernel)
theorem dX11_appeal_51 : decode cX11_appeal 51 = .ok (.ireturn, 1) := dc_172 (by decide +kernel)
theorem dX11_appeal_46 : decode cX11_appeal 46 = .ok (.iconst 1, 1) := dc_4 (by decide +kernel)
theorem dX11_appeal_47 : decode cX11_appeal 47 = .ok (.goto 4, 3) := dc_167 0 4 4 (by decide +kernel)
abbrev R_X11_appeal : Room := { frames := 6, cells := 0, slots := 0, locals := 167 }
set_option maxRecDepth 100000 in
set_option maxHeartbeats 4000000 in
theorem s_X11_appeal {l : Launch} {n0 : Nat} {D : va_G} {cA : Nat → ClassId} {M : gM} (a : Int) (r_a : -2147483648 ≤ a ∧ a ≤ 2147483647) (b : Int) (r_b : -2147483648 ≤ b ∧ b ≤ 2147483647) (c : Int) (r_c : -2147483648 ≤ c ∧ c ≤ 2147483647) {sz : Nat} (hsz : 206 ≤ sz) (I : gI sz M) (C : gC sz M)   : Met l yX11_appeal (gWsOf yX11_appeal cX11_appeal 4 (Option.some Jvm.ClassFile.FieldType.int)) R_X11_appeal (gPc n0 D cA [gA n0 0, gJ a, gJ b, gJ c] M sz) (gQi n0 D cA sz (fun z M1 => (-1 ≤ z ∧ z ≤ 1) ∧ gI sz M1 ∧ gC sz M1 ∧ gFr 33554432 M M1)) 0 0 (fun q => n0 ≤ q) := by
  refine gMetI [gA n0 0, gJ a, gJ b, gJ c] (by decide) (Nat.le_of_ble_eq_true rfl) ⟨rfl, rfl⟩ ?_
  intro p e s m args below meth cd Q X hq
  have X : gCx p s m args meth cd n0 D cA "ParishUnion" cX11_appeal 4 := X
  show G p l e R_X11_appeal s m args below meth cd n0 D cA 4 Q 0 0 M sz 0 [(0, gA n0 0), (1, gJ a), (2, gJ b), (3, gJ c)] []
  refine g_aload_n (n := 1) X 0 dX11_appeal_0 rfl rfl rfl ?_
  refine g_iload_n (n := 2) X 1 dX11_appeal_1 rfl rfl rfl ?_
  refine g_callVi (n := 5) (As := [gJ a]) (rest := []) (cs1 := 0) (ss1 := 0) X (s_X11_isOrder a (by omega) hsz I C ) okX11_isOrder kw_4_139 ⟨kw_4_141, kw_0_20⟩ ⟨rfl, rfl⟩ ⟨Nat.le_of_ble_eq_true rfl, Nat.le_of_ble_eq_true rfl⟩ rfl (by decide) (gsz hsz (by decide)) lay_0 rfl rfl (Nat.le_of_ble_eq_true rfl) ⟨Nat.le_of_ble_eq_true rfl, Nat.le_of_ble_eq_true rfl⟩ rfl rfl dX11_appeal_2 rfl (fun v1 M2 P3 => ?_)
  obtain ⟨rfl, rv1, xv1⟩ := P3
  refine g_if_eq (n := 8) (tgt := 23) X dX11_appeal_5 (by decide) (by omega) rfl (fun c4 => ?_) (fun c4 => ?_)
  · refine g_iconst (n := 24) X dX11_appeal_23 rfl ?_
    exact hq _ _ _ _ dX11_appeal_24 ⟨by omega, I, C, gFr.rf⟩
  · refine g_iload_n (n := 9) X 2 dX11_appeal_8 rfl rfl rfl ?_
    refine g_callSi (n := 12) (As := [gJ b]) (rest := []) (cs1 := 0) (ss1 := 0) X (s_X11_isBench b (by omega) hsz I C ) okX11_isBench kw_3_126 kw_3_127 ⟨rfl, rfl⟩ ⟨Nat.le_of_ble_eq_true rfl, Nat.le_of_ble_eq_true rfl⟩ rfl rfl (Nat.le_of_ble_eq_true rfl) ⟨Nat.le_of_ble_eq_true rfl, Nat.le_of_ble_eq_true rfl⟩ rfl rfl dX11_appeal_9 rfl (fun v5 M6 P7 => ?_)
    obtain ⟨rfl, rv5, xv5⟩ := P7
    refine g_if_eq (n := 15) (tgt := 23) X dX11_appeal_12 (by decide) (by omega) rfl (fun c8 => ?_) (fun c8 => ?_)
    · refine g_iconst (n := 24) X dX11_appeal_23 rfl ?_
      exact hq _ _ _ _ dX11_appeal_24 ⟨by omega, I, C, gFr.rf⟩
    · refine g_aload_n (n := 16) X 0 dX11_appeal_15 rfl rfl rfl ?_
      refine g_iload_n (n := 17) X 3 dX11_appeal_16 rfl rfl rfl ?_
      refine g_callVi (n := 20) (As := [gJ c]) (rest := []) (cs1 := 0) (ss1 := 0) X (s_X11_isEntryCount c (by omega) hsz I C ) okX11_isEntryCount kw_3_129 ⟨kw_3_131, kw_0_2⟩ ⟨rfl, rfl⟩ ⟨Nat.le_of_ble_eq_true rfl, Nat.le_of_ble_eq_true rfl⟩ rfl (by decide) (gsz hsz (by decide)) lay_0 rfl rfl (Nat.le_of_ble_eq_true rfl) ⟨Nat.le_of_ble_eq_true rfl, Nat.le_of_ble_eq_true rfl⟩ rfl rfl dX11_appeal_17 rfl (fun v9 M10 P11 => ?_)
      obtain ⟨rfl, rv9, xv9⟩ := P11
      refine g_if_ne (n := 23) (tgt := 25) X dX11_appeal_20 (by decide) (by omega) rfl (fun c12 => ?_) (fun c12 => ?_)
      · refine g_aload_n (n := 26) X 0 dX11_appeal_25 rfl rfl rfl ?_
        refine gg_11_1 (n := 29) (z := 153) X (by decide) (gsz hsz (by decide)) lay_0 kw_2_232 dX11_appeal_26 rfl (rf_0_1 I (gsz hsz (by decide))) (by decide) ?_
        refine g_aload_n (n := 30) X 0 dX11_appeal_29 rfl rfl rfl ?_
        refine gg_11_0 (n := 33) (z := 1) X (by decide) (gsz hsz (by decide)) lay_0 kw_2_231 dX11_appeal_30 rfl (rf_0_0 I (gsz hsz (by decide))) (by decide) ?_
        refine g_iload_n (n := 34) X 3 dX11_appeal_33 rfl rfl rfl ?_
        refine g_callVv (n := 37) (As := [gA n0 1, gJ c]) (rest := []) (cs1 := 0) (ss1 := 0) X (s_X1_prepare c (by omega) hsz I C ) okX1_prepare kw_3_133 ⟨kw_3_134, kw_3_135⟩ ⟨rfl, rfl⟩ ⟨Nat.le_of_ble_eq_true rfl, Nat.le_of_ble_eq_true rfl⟩ rfl (by decide) (gsz hsz (by decide)) lay_153 rfl rfl (Nat.le_of_ble_eq_true rfl) ⟨Nat.le_of_ble_eq_true rfl, Nat.le_of_ble_eq_true rfl⟩ rfl rfl dX11_appeal_34 rfl (fun M14 P15 => ?_)
        obtain ⟨IM14, CM14, FM14⟩ := P15
        refine g_aload_n (n := 38) X 0 dX11_appeal_37 rfl rfl rfl ?_
        refine g_iload_n (n := 39) X 1 dX11_appeal_38 rfl rfl rfl ?_
        refine g_iload_n (n := 40) X 2 dX11_appeal_39 rfl rfl rfl ?_
        refine g_callVi (n := 43) (As := [gJ a, gJ b]) (rest := []) (cs1 := 0) (ss1 := 0) X (s_X11_stands a (by omega) b (by omega) hsz IM14 CM14 ) okX11_stands kw_4_143 ⟨kw_4_145, kw_0_21⟩ ⟨rfl, rfl⟩ ⟨Nat.le_of_ble_eq_true rfl, Nat.le_of_ble_eq_true rfl⟩ rfl (by decide) (gsz hsz (by decide)) lay_0 rfl rfl (Nat.le_of_ble_eq_true rfl) ⟨Nat.le_of_ble_eq_true rfl, Nat.le_of_ble_eq_true rfl⟩ rfl rfl dX11_appeal_40 rfl (fun v16 M17 P18 => ?_)
        obtain ⟨rfl, rv16⟩ := P18
        refine g_if_eq (n := 46) (tgt := 50) X dX11_appeal_43 (by decide) (by omega) rfl (fun c19 => ?_) (fun c19 => ?_)
        · refine g_iconst (n := 51) X dX11_appeal_50 rfl ?_
          exact hq _ _ _ _ dX11_appeal_51 ⟨by omega, IM14, CM14, (gFr.c gFr.rf FM14 rfl)⟩
        · refine g_iconst (n := 47) X dX11_appeal_46 rfl ?_
          refine g_goto (tgt := 51) X dX11_appeal_47 (by decide) ?_
          exact hq _ _ _ _ dX11_appeal_51 ⟨by omega, IM14, CM14, (gFr.c gFr.rf FM14 rfl)⟩
      · refine g_iconst (n := 24) X dX11_appeal_23 rfl ?_
        exact hq _ _ _ _ dX11_appeal_24 ⟨by omega, I, C, gFr.rf⟩
theorem dX11_unlike_0 : decode cX11_unlike 0 = .ok (.aload_n 0, 1) := dc_42 (by decide +kernel)
theorem dX11_unlike_1 : decode cX11_unlike 1 = .ok (.iload_n 1, 1) := dc_27 (by decide +kernel)
theorem dX11_unlike_2 : decode cX11_unlike 2 = .ok (.invokevirtual 187, 3) := dc_182 0 187 (by decide +kernel)
theorem dX11_unlike_5 : decode cX11_unlike 5 = .ok (.ifCond .ne 5, 3) := dc_154 0 5 5 (by decide +kernel)
theorem dX11_unlike_10 : decode cX11_unlike 10 = .ok (.aload_n 0, 1) := dc_42 (by decide +kernel)
theorem dX11_unlike_11 : decode cX11_unlike 11 = .ok (.getfield 19, 3) := dc_180 0 19 (by decide +kernel)
theorem dX11_unlike_14 : decode cX11_unlike 14 = .ok (.aload_n 0, 1) := dc_42 (by decide +kernel)
theorem dX11_unlike_15 : decode cX11_unlike 15 = .ok (.getfield 10, 3) := dc_180 0 10 (by decide +kernel)
theorem dX11_unlike_18 : decode cX11_unlike 18 = .ok (.iload_n 1, 1) := dc_27 (by decide +kernel)
theorem dX11_unlike_19 : decode cX11_unlike 19 = .ok (.invokevirtual 190, 3) := dc_182 0 190 (by decide +kernel)
theorem dX11_unlike_22 : decode cX11_unlike 22 = .ok (.iconst 0, 1) := dc_3 (by decide +kernel)
theorem dX11_unlike_23 : decode cX11_unlike 23 = .ok (.istore_n 2, 1) := dc_61 (by decide +kernel)
theorem dX11_unlike_24 : decode cX11_unlike 24 = .ok (.iconst 0, 1) := dc_3 (by decide +kernel)
theorem dX11_unlike_25 : decode cX11_unlike 25 = .ok (.istore_n 3, 1) := dc_62 (by decide +kernel)
theorem dX11_unlike_26 : decode cX11_unlike 26 = .ok (.iload_n 3, 1) := dc_29 (by decide +kernel)
theorem dX11_unlike_27 : decode cX11_unlike 27 = .ok (.aload_n 0, 1) := dc_42 (by decide +kernel)
theorem dX11_unlike_28 : decode cX11_unlike 28 = .ok (.getfield 10, 3) := dc_180 0 10 (by decide +kernel)
theorem dX11_unlike_31 : decode cX11_unlike 31 = .ok (.getfield 247, 3) := dc_180 0 247 (by decide +kernel)
theorem dX11_unlike_34 : decode cX11_unlike 34 = .ok (.getfield 251, 3) := dc_180 0 251 (by decide +kernel)
theorem dX11_unlike_37 : decode cX11_unlike 37 = .ok (.if_icmp .ge 30, 3) := dc_162 0 30 30 (by decide +kernel)
theorem dX11_unlike_67 : decode cX11_unlike 67 = .ok (.iload_n 2, 1) := dc_28 (by decide +kernel)
theorem dX11_unlike_68 : decode cX11_unlike 68 = .ok (.ireturn, 1) := dc_172 (by decide +kernel)
theorem dX11_unlike_40 : decode cX11_unlike 40 = .ok (.aload_n 0, 1) := dc_42 (by decide +kernel)
theorem dX11_unlike_41 : decode cX11_unlike 41 = .ok (.iload_n 3, 1) := dc_29 (by decide +kernel)
theorem dX11_unlike_42 : decode cX11_unlike 42 = .ok (.iconst 0, 1) := dc_3 (by decide +kernel)
theorem dX11_unlike_43 : decode cX11_unlike 43 = .ok (.invokevirtual 263, 3) := dc_182 1 7 (by decide +kernel)
theorem dX11_unlike_46 : decode cX11_unlike 46 = .ok (.aload_n 0, 1) := dc_42 (by decide +kernel)
theorem dX11_unlike_47 : decode cX11_unlike 47 = .ok (.iload_n 3, 1) := dc_29 (by decide +kernel)
theorem dX11_unlike_48 : decode cX11_unlike 48 = .ok (.iconst 1, 1) := dc_4 (by decide +kernel)
theorem dX11_unlike_49 : decode cX11_unlike 49 = .ok (.invokevirtual 263, 3) := dc_182 1 7 (by decide +kernel)
theorem dX11_unlike_52 : decode cX11_unlike 52 = .ok (.if_icmp .eq 9, 3) := dc_159 0 9 9 (by decide +kernel)
theorem dX11_unlike_61 : decode cX11_unlike 61 = .ok (.iinc 3 1, 3) := dc_132 3 1 1 (by decide +kernel)
theorem dX11_unlike_64 : decode cX11_unlike 64 = .ok (.goto (-38), 3) := dc_167 255 218 (-38) (by decide +kernel)
theorem dX11_unlike_55 : decode cX11_unlike 55 = .ok (.iload_n 2, 1) := dc_28 (by decide +kernel)
theorem dX11_unlike_56 : decode cX11_unlike 56 = .ok (.iconst 1, 1) := dc_4 (by decide +kernel)
theorem dX11_unlike_57 : decode cX11_unlike 57 = .ok (.iload_n 3, 1) := dc_29 (by decide +kernel)
theorem dX11_unlike_58 : decode cX11_unlike 58 = .ok (.ishl, 1) := dc_120 (by decide +kernel)
theorem dX11_unlike_59 : decode cX11_unlike 59 = .ok (.ior, 1) := dc_128 (by decide +kernel)
theorem dX11_unlike_60 : decode cX11_unlike 60 = .ok (.istore_n 2, 1) := dc_61 (by decide +kernel)
theorem dX11_unlike_8 : decode cX11_unlike 8 = .ok (.iconst (-1), 1) := dc_2 (by decide +kernel)
theorem dX11_unlike_9 : decode cX11_unlike 9 = .ok (.ireturn, 1) := dc_172 (by decide +kernel)
abbrev R_X11_unlike : Room := { frames := 6, cells := 0, slots := 0, locals := 167 }
set_option maxRecDepth 100000 in
set_option maxHeartbeats 4000000 in
theorem s_X11_unlike {l : Launch} {n0 : Nat} {D : va_G} {cA : Nat → ClassId} {M : gM} (a : Int) (r_a : -2147483648 ≤ a ∧ a ≤ 2147483647) {sz : Nat} (hsz : 206 ≤ sz) (I : gI sz M) (C : gC sz M)   : Met l yX11_unlike (gWsOf yX11_unlike cX11_unlike 4 (Option.some Jvm.ClassFile.FieldType.int)) R_X11_unlike (gPc n0 D cA [gA n0 0, gJ a] M sz) (gQi n0 D cA sz (fun z M1 => (-2147483648 ≤ z ∧ z ≤ 2147483647) ∧ gI sz M1 ∧ gC sz M1 ∧ gFr 33554432 M M1)) 0 0 (fun q => n0 ≤ q) := by
  refine gMetI [gA n0 0, gJ a] (by decide) (Nat.le_of_ble_eq_true rfl) ⟨rfl, rfl⟩ ?_
  intro p e s m args below meth cd Q X hq
  have X : gCx p s m args meth cd n0 D cA "ParishUnion" cX11_unlike 4 := X
  show G p l e R_X11_unlike s m args below meth cd n0 D cA 4 Q 0 0 M sz 0 [(0, gA n0 0), (1, gJ a)] []
  refine g_aload_n (n := 1) X 0 dX11_unlike_0 rfl rfl rfl ?_
  refine g_iload_n (n := 2) X 1 dX11_unlike_1 rfl rfl rfl ?_
  refine g_callVi (n := 5) (As := [gJ a]) (rest := []) (cs1 := 0) (ss1 := 0) X (s_X11_isEntryCount a (by omega) hsz I C ) okX11_isEntryCount kw_3_129 ⟨kw_3_131, kw_0_2⟩ ⟨rfl, rfl⟩ ⟨Nat.le_of_ble_eq_true rfl, Nat.le_of_ble_eq_true rfl⟩ rfl (by decide) (gsz hsz (by decide)) lay_0 rfl rfl (Nat.le_of_ble_eq_true rfl) ⟨Nat.le_of_ble_eq_true rfl, Nat.le_of_ble_eq_true rfl⟩ rfl rfl dX11_unlike_2 rfl (fun v1 M2 P3 => ?_)
  obtain ⟨rfl, rv1, xv1⟩ := P3
  refine g_if_ne (n := 8) (tgt := 10) X dX11_unlike_5 (by decide) (by omega) rfl (fun c4 => ?_) (fun c4 => ?_)
  · refine g_aload_n (n := 11) X 0 dX11_unlike_10 rfl rfl rfl ?_
    refine gg_11_1 (n := 14) (z := 153) X (by decide) (gsz hsz (by decide)) lay_0 kw_2_232 dX11_unlike_11 rfl (rf_0_1 I (gsz hsz (by decide))) (by decide) ?_
    refine g_aload_n (n := 15) X 0 dX11_unlike_14 rfl rfl rfl ?_
    refine gg_11_0 (n := 18) (z := 1) X (by decide) (gsz hsz (by decide)) lay_0 kw_2_231 dX11_unlike_15 rfl (rf_0_0 I (gsz hsz (by decide))) (by decide) ?_
    refine g_iload_n (n := 19) X 1 dX11_unlike_18 rfl rfl rfl ?_
    refine g_callVv (n := 22) (As := [gA n0 1, gJ a]) (rest := []) (cs1 := 0) (ss1 := 0) X (s_X1_prepare a (by omega) hsz I C ) okX1_prepare kw_3_133 ⟨kw_3_134, kw_3_135⟩ ⟨rfl, rfl⟩ ⟨Nat.le_of_ble_eq_true rfl, Nat.le_of_ble_eq_true rfl⟩ rfl (by decide) (gsz hsz (by decide)) lay_153 rfl rfl (Nat.le_of_ble_eq_true rfl) ⟨Nat.le_of_ble_eq_true rfl, Nat.le_of_ble_eq_true rfl⟩ rfl rfl dX11_unlike_19 rfl (fun M6 P7 => ?_)
    obtain ⟨IM6, CM6, FM6⟩ := P7
    refine g_iconst (n := 23) X dX11_unlike_22 rfl ?_
    refine g_istore_n (n := 24) (L' := [(2, gJ 0), (0, gA n0 0), (1, gJ a)]) X dX11_unlike_23 rfl (by decide) rfl rfl ?_
    refine g_iconst (n := 25) X dX11_unlike_24 rfl ?_
    refine g_istore_n (n := 26) (L' := [(3, gJ 0), (2, gJ 0), (0, gA n0 0), (1, gJ a)]) X dX11_unlike_25 rfl (by decide) rfl rfl ?_
    have j11 : ∀ (N89 : Nat) (v8 v9 : Int) , (-2147483648 ≤ v8 ∧ v8 ≤ 2147483647) → (0 ≤ v9 ∧ v9 ≤ 20) → (20 - v9).toNat < N89 → G p l e R_X11_unlike s m args below meth cd n0 D cA 4 Q 0 0 M6 sz 26 [(0, gA n0 0), (2, gJ v8), (3, gJ v9)] [] := by
      intro N89; induction N89 with
      | zero => intro v8 v9 rv8 rv9 hm91; exfalso; omega
      | succ N89 ih90 =>
        intro v8 v9 rv8 rv9 hm91
        refine g_iload_n (n := 27) X 2 dX11_unlike_26 rfl rfl rfl ?_
        refine g_aload_n (n := 28) X 0 dX11_unlike_27 rfl rfl rfl ?_
        refine gg_11_0 (n := 31) (z := 1) X (by decide) (gsz hsz (by decide)) lay_0 kw_2_231 dX11_unlike_28 rfl (rf_0_0 IM6 (gsz hsz (by decide))) (by decide) ?_
        refine gg_9_5 (n := 34) (z := 9) X (by decide) (gsz hsz (by decide)) lay_1 kw_2_117 dX11_unlike_31 rfl (rf_1_5 IM6 (gsz hsz (by decide))) (by decide) ?_
        obtain ⟨v92, hv92, rv92⟩ := gRd IM6 (by decide) (gsz hsz (by decide)) rc_9_5.1
        refine gg_4_5 (n := 37) (z := v92) X (by decide) (gsz hsz (by decide)) lay_9 kw_1_73 dX11_unlike_34 rfl hv92 ?_
        refine g_icmp_ge (n := 40) (tgt := 67) X dX11_unlike_37 (by decide) (by omega) (by omega) rfl (fun c93 => ?_) (fun c93 => ?_)
        · refine g_iload_n (n := 68) X 1 dX11_unlike_67 rfl rfl rfl ?_
          exact hq _ _ _ _ dX11_unlike_68 ⟨by omega, IM6, CM6, (gFr.c gFr.rf FM6 rfl)⟩
        · refine g_aload_n (n := 41) X 0 dX11_unlike_40 rfl rfl rfl ?_
          refine g_iload_n (n := 42) X 2 dX11_unlike_41 rfl rfl rfl ?_
          refine g_iconst (n := 43) X dX11_unlike_42 rfl ?_
          refine g_callVi (n := 46) (As := [gJ v9, gJ 0]) (rest := []) (cs1 := 0) (ss1 := 0) X (s_X11_stands v9 (by omega) 0 (by omega) hsz IM6 CM6 ) okX11_stands kw_4_143 ⟨kw_4_145, kw_0_21⟩ ⟨rfl, rfl⟩ ⟨Nat.le_of_ble_eq_true rfl, Nat.le_of_ble_eq_true rfl⟩ rfl (by decide) (gsz hsz (by decide)) lay_0 rfl rfl (Nat.le_of_ble_eq_true rfl) ⟨Nat.le_of_ble_eq_true rfl, Nat.le_of_ble_eq_true rfl⟩ rfl rfl dX11_unlike_43 rfl (fun v94 M95 P96 => ?_)
          obtain ⟨rfl, rv94⟩ := P96
          refine g_aload_n (n := 47) X 0 dX11_unlike_46 rfl rfl rfl ?_
          refine g_iload_n (n := 48) X 2 dX11_unlike_47 rfl rfl rfl ?_
          refine g_iconst (n := 49) X dX11_unlike_48 rfl ?_
          refine g_callVi (n := 52) (As := [gJ v9, gJ 1]) (rest := [gJ v94]) (cs1 := 0) (ss1 := 0) X (s_X11_stands v9 (by omega) 1 (by omega) hsz IM6 CM6 ) okX11_stands kw_4_143 ⟨kw_4_145, kw_0_21⟩ ⟨rfl, rfl⟩ ⟨Nat.le_of_ble_eq_true rfl, Nat.le_of_ble_eq_true rfl⟩ rfl (by decide) (gsz hsz (by decide)) lay_0 rfl rfl (Nat.le_of_ble_eq_true rfl) ⟨Nat.le_of_ble_eq_true rfl, Nat.le_of_ble_eq_true rfl⟩ rfl rfl dX11_unlike_49 rfl (fun v97 M98 P99 => ?_)
          obtain ⟨rfl, rv97⟩ := P99
          refine g_icmp_eq (n := 55) (tgt := 61) X dX11_unlike_52 (by decide) (by omega) (by omega) rfl (fun c100 => ?_) (fun c100 => ?_)
          · refine g_iinc (n := 64) (w := v9 + 1) (L' := [(3, gJ (v9 + 1)), (0, gA n0 0), (2, gJ v8)]) X 2 dX11_unlike_61 rfl rfl (by decide) rfl rfl ?_
            refine g_goto (tgt := 26) X dX11_unlike_64 (by decide) ?_
            refine G.sub (L' := [(0, gA n0 0), (2, gJ v8), (3, gJ (v9 + 1))]) [1, 2, 0] rfl ?_
            exact ih90 v8 (v9 + 1) (by omega) (by omega) (by omega)
          · refine g_iload_n (n := 56) X 1 dX11_unlike_55 rfl rfl rfl ?_
            refine g_iconst (n := 57) X dX11_unlike_56 rfl ?_
            refine g_iload_n (n := 58) X 2 dX11_unlike_57 rfl rfl rfl ?_
            refine g_ishlA (n := 59) X dX11_unlike_58 rfl (fun v101 rv101 xv101 => ?_)
            clear xv101
            refine g_iorA (n := 60) X dX11_unlike_59 rfl (fun v102 rv102 xv102 => ?_)
            clear xv102
            refine g_istore_n (n := 61) (L' := [(2, gJ v102), (0, gA n0 0), (3, gJ v9)]) X dX11_unlike_60 rfl (by decide) rfl rfl ?_
            refine g_iinc (n := 64) (w := v9 + 1) (L' := [(3, gJ (v9 + 1)), (2, gJ v102), (0, gA n0 0)]) X 2 dX11_unlike_61 rfl rfl (by decide) rfl rfl ?_
            refine g_goto (tgt := 26) X dX11_unlike_64 (by decide) ?_
            refine G.sub (L' := [(0, gA n0 0), (2, gJ v102), (3, gJ (v9 + 1))]) [2, 1, 0] rfl ?_
            exact ih90 v102 (v9 + 1) (by omega) (by omega) (by omega)
    refine G.sub (L' := [(0, gA n0 0), (2, gJ 0), (3, gJ 0)]) [2, 1, 0] rfl ?_
    exact j11 _ 0 0 (by omega) (by omega) (Nat.lt_succ_self _)
  · refine g_iconst (n := 9) X dX11_unlike_8 rfl ?_
    exact hq _ _ _ _ dX11_unlike_9 ⟨by omega, I, C, gFr.rf⟩
theorem dX11_carry_0 : decode cX11_carry 0 = .ok (.aload_n 0, 1) := dc_42 (by decide +kernel)
theorem dX11_carry_1 : decode cX11_carry 1 = .ok (.iload_n 1, 1) := dc_27 (by decide +kernel)
theorem dX11_carry_2 : decode cX11_carry 2 = .ok (.invokevirtual 260, 3) := dc_182 1 4 (by decide +kernel)
theorem dX11_carry_5 : decode cX11_carry 5 = .ok (.ifCond .ne 5, 3) := dc_154 0 5 5 (by decide +kernel)
theorem dX11_carry_10 : decode cX11_carry 10 = .ok (.aload_n 0, 1) := dc_42 (by decide +kernel)
theorem dX11_carry_11 : decode cX11_carry 11 = .ok (.getfield 10, 3) := dc_180 0 10 (by decide +kernel)
theorem dX11_carry_14 : decode cX11_carry 14 = .ok (.getfield 247, 3) := dc_180 0 247 (by decide +kernel)
theorem dX11_carry_17 : decode cX11_carry 17 = .ok (.astore_n 2, 1) := dc_77 (by decide +kernel)
theorem dX11_carry_18 : decode cX11_carry 18 = .ok (.aload_n 0, 1) := dc_42 (by decide +kernel)
theorem dX11_carry_19 : decode cX11_carry 19 = .ok (.getfield 10, 3) := dc_180 0 10 (by decide +kernel)
theorem dX11_carry_22 : decode cX11_carry 22 = .ok (.getfield 89, 3) := dc_180 0 89 (by decide +kernel)
theorem dX11_carry_25 : decode cX11_carry 25 = .ok (.aload_n 2, 1) := dc_44 (by decide +kernel)
theorem dX11_carry_26 : decode cX11_carry 26 = .ok (.getfield 267, 3) := dc_180 1 11 (by decide +kernel)
theorem dX11_carry_29 : decode cX11_carry 29 = .ok (.iload_n 1, 1) := dc_27 (by decide +kernel)
theorem dX11_carry_30 : decode cX11_carry 30 = .ok (.iaload, 1) := dc_46 (by decide +kernel)
theorem dX11_carry_31 : decode cX11_carry 31 = .ok (.aaload, 1) := dc_50 (by decide +kernel)
theorem dX11_carry_32 : decode cX11_carry 32 = .ok (.astore_n 3, 1) := dc_78 (by decide +kernel)
theorem dX11_carry_33 : decode cX11_carry 33 = .ok (.aload_n 2, 1) := dc_44 (by decide +kernel)
theorem dX11_carry_34 : decode cX11_carry 34 = .ok (.getfield 269, 3) := dc_180 1 13 (by decide +kernel)
theorem kw_1_71 : (Jvm.Cond.fieldLink "ParishUnion" (269 : Nat) "ParishUnion$Orders" "carried" "[Z") ∈ gT := gT_of (tb_1 _ (List.mem_of_getElem? (i := 71) rfl)) rfl
theorem dX11_carry_37 : decode cX11_carry 37 = .ok (.iload_n 1, 1) := dc_27 (by decide +kernel)
theorem dX11_carry_38 : decode cX11_carry 38 = .ok (.baload, 1) := dc_51 (by decide +kernel)
theorem dX11_carry_39 : decode cX11_carry 39 = .ok (.ifCond .ne 16, 3) := dc_154 0 16 16 (by decide +kernel)
theorem dX11_carry_55 : decode cX11_carry 55 = .ok (.bipush (-3), 2) := dc_16 253 (-3) (by decide +kernel)
theorem dX11_carry_57 : decode cX11_carry 57 = .ok (.ireturn, 1) := dc_172 (by decide +kernel)
theorem dX11_carry_42 : decode cX11_carry 42 = .ok (.aload_n 3, 1) := dc_45 (by decide +kernel)
theorem dX11_carry_43 : decode cX11_carry 43 = .ok (.getfield 114, 3) := dc_180 0 114 (by decide +kernel)
theorem dX11_carry_46 : decode cX11_carry 46 = .ok (.aload_n 2, 1) := dc_44 (by decide +kernel)
theorem dX11_carry_47 : decode cX11_carry 47 = .ok (.getfield 273, 3) := dc_180 1 17 (by decide +kernel)
theorem kw_1_65 : (Jvm.Cond.fieldLink "ParishUnion" (273 : Nat) "ParishUnion$Orders" "from" "[I") ∈ gT := gT_of (tb_1 _ (List.mem_of_getElem? (i := 65) rfl)) rfl
theorem dX11_carry_50 : decode cX11_carry 50 = .ok (.iload_n 1, 1) := dc_27 (by decide +kernel)
theorem dX11_carry_51 : decode cX11_carry 51 = .ok (.iaload, 1) := dc_46 (by decide +kernel)
theorem dX11_carry_52 : decode cX11_carry 52 = .ok (.if_icmp .eq 6, 3) := dc_159 0 6 6 (by decide +kernel)
theorem dX11_carry_58 : decode cX11_carry 58 = .ok (.aload_n 2, 1) := dc_44 (by decide +kernel)
theorem dX11_carry_59 : decode cX11_carry 59 = .ok (.getfield 269, 3) := dc_180 1 13 (by decide +kernel)
theorem dX11_carry_62 : decode cX11_carry 62 = .ok (.iload_n 1, 1) := dc_27 (by decide +kernel)
theorem dX11_carry_63 : decode cX11_carry 63 = .ok (.iconst 1, 1) := dc_4 (by decide +kernel)
theorem dX11_carry_64 : decode cX11_carry 64 = .ok (.bastore, 1) := dc_84 (by decide +kernel)
theorem dX11_carry_65 : decode cX11_carry 65 = .ok (.aload_n 3, 1) := dc_45 (by decide +kernel)
theorem dX11_carry_66 : decode cX11_carry 66 = .ok (.aload_n 2, 1) := dc_44 (by decide +kernel)
theorem dX11_carry_67 : decode cX11_carry 67 = .ok (.getfield 276, 3) := dc_180 1 20 (by decide +kernel)
theorem dX11_carry_70 : decode cX11_carry 70 = .ok (.iload_n 1, 1) := dc_27 (by decide +kernel)
theorem dX11_carry_71 : decode cX11_carry 71 = .ok (.iaload, 1) := dc_46 (by decide +kernel)
theorem dX11_carry_72 : decode cX11_carry 72 = .ok (.putfield 114, 3) := dc_181 0 114 (by decide +kernel)
theorem dX11_carry_75 : decode cX11_carry 75 = .ok (.aload_n 3, 1) := dc_45 (by decide +kernel)
theorem dX11_carry_76 : decode cX11_carry 76 = .ok (.getfield 114, 3) := dc_180 0 114 (by decide +kernel)
theorem dX11_carry_79 : decode cX11_carry 79 = .ok (.ireturn, 1) := dc_172 (by decide +kernel)
theorem dX11_carry_8 : decode cX11_carry 8 = .ok (.iconst (-1), 1) := dc_2 (by decide +kernel)
theorem dX11_carry_9 : decode cX11_carry 9 = .ok (.ireturn, 1) := dc_172 (by decide +kernel)
abbrev R_X11_carry : Room := { frames := 2, cells := 0, slots := 0, locals := 43 }
set_option maxRecDepth 100000 in
set_option maxHeartbeats 4000000 in
theorem s_X11_carry {l : Launch} {n0 : Nat} {D : va_G} {cA : Nat → ClassId} {M : gM} (a : Int) (r_a : -2147483648 ≤ a ∧ a ≤ 2147483647) {sz : Nat} (hsz : 206 ≤ sz) (I : gI sz M) (C : gC sz M)   : Met l yX11_carry (gWsOf yX11_carry cX11_carry 4 (Option.some Jvm.ClassFile.FieldType.int)) R_X11_carry (gPc n0 D cA [gA n0 0, gJ a] M sz) (gQi n0 D cA sz (fun z M1 => (-3 ≤ z ∧ z ≤ 5) ∧ gI sz M1 ∧ gC sz M1 ∧ gFr 1040 M M1)) 0 0 (fun q => n0 ≤ q) := by
  refine gMetI [gA n0 0, gJ a] (by decide) (Nat.le_of_ble_eq_true rfl) ⟨rfl, rfl⟩ ?_
  intro p e s m args below meth cd Q X hq
  have X : gCx p s m args meth cd n0 D cA "ParishUnion" cX11_carry 4 := X
  show G p l e R_X11_carry s m args below meth cd n0 D cA 4 Q 0 0 M sz 0 [(0, gA n0 0), (1, gJ a)] []
  refine g_aload_n (n := 1) X 0 dX11_carry_0 rfl rfl rfl ?_
  refine g_iload_n (n := 2) X 1 dX11_carry_1 rfl rfl rfl ?_
  refine g_callVi (n := 5) (As := [gJ a]) (rest := []) (cs1 := 0) (ss1 := 0) X (s_X11_isOrder a (by omega) hsz I C ) okX11_isOrder kw_4_139 ⟨kw_4_141, kw_0_20⟩ ⟨rfl, rfl⟩ ⟨Nat.le_of_ble_eq_true rfl, Nat.le_of_ble_eq_true rfl⟩ rfl (by decide) (gsz hsz (by decide)) lay_0 rfl rfl (Nat.le_of_ble_eq_true rfl) ⟨Nat.le_of_ble_eq_true rfl, Nat.le_of_ble_eq_true rfl⟩ rfl rfl dX11_carry_2 rfl (fun v1 M2 P3 => ?_)
  obtain ⟨rfl, rv1, xv1⟩ := P3
  refine g_if_ne (n := 8) (tgt := 10) X dX11_carry_5 (by decide) (by omega) rfl (fun c4 => ?_) (fun c4 => ?_)
  · refine g_aload_n (n := 11) X 0 dX11_carry_10 rfl rfl rfl ?_
    refine gg_11_0 (n := 14) (z := 1) X (by decide) (gsz hsz (by decide)) lay_0 kw_2_231 dX11_carry_11 rfl (rf_0_0 I (gsz hsz (by decide))) (by decide) ?_
    refine gg_9_5 (n := 17) (z := 9) X (by decide) (gsz hsz (by decide)) lay_1 kw_2_117 dX11_carry_14 rfl (rf_1_5 I (gsz hsz (by decide))) (by decide) ?_
    refine g_astore_n (n := 18) (L' := [(2, gA n0 9), (0, gA n0 0), (1, gJ a)]) X dX11_carry_17 rfl (by decide) rfl rfl ?_
    refine g_aload_n (n := 19) X 1 dX11_carry_18 rfl rfl rfl ?_
    refine gg_11_0 (n := 22) (z := 1) X (by decide) (gsz hsz (by decide)) lay_0 kw_2_231 dX11_carry_19 rfl (rf_0_0 I (gsz hsz (by decide))) (by decide) ?_
    refine gg_9_1 (n := 25) (z := 5) X (by decide) (gsz hsz (by decide)) lay_1 kw_2_108 dX11_carry_22 rfl (rf_1_1 I (gsz hsz (by decide))) (by decide) ?_
    refine g_aload_n (n := 26) X 0 dX11_carry_25 rfl rfl rfl ?_
    refine gg_4_0 (n := 29) (z := 10) X (by decide) (gsz hsz (by decide)) lay_9 kw_1_63 dX11_carry_26 rfl (rf_9_0 I (gsz hsz (by decide))) (by decide) ?_
    refine g_iload_n (n := 30) X 2 dX11_carry_29 rfl rfl rfl ?_
    obtain ⟨v5, hv5, rv5⟩ := gRd I (by decide) (gsz hsz (by decide)) (ra_10 a).1
    refine g_iald2 (n := 31) (v := v5) X (by decide) (gsz hsz (by decide)) lay_10 (by omega) (by omega) (by decide) dX11_carry_30 rfl hv5 ?_
    obtain ⟨o6, ho6, ro6⟩ : ∃ o : Int, o = 31 + v5 ∧ (31 ≤ o ∧ o < 47) := ⟨_, rfl, by omega⟩
    refine g_aald6 (n := 32) (t := o6) X (by decide) (gsz hsz (by decide)) lay_5 (by omega) (by omega) (by decide) (gA5 I hsz (by omega) (by omega) (by omega)) (by omega) dX11_carry_31 rfl ?_
    refine g_astore_n (n := 33) (L' := [(3, gA n0 o6), (2, gA n0 9), (0, gA n0 0), (1, gJ a)]) X dX11_carry_32 rfl (by decide) rfl rfl ?_
    refine g_aload_n (n := 34) X 1 dX11_carry_33 rfl rfl rfl ?_
    refine gg_4_4 (n := 37) (z := 14) X (by decide) (gsz hsz (by decide)) lay_9 kw_1_71 dX11_carry_34 rfl (rf_9_4 I (gsz hsz (by decide))) (by decide) ?_
    refine g_iload_n (n := 38) X 3 dX11_carry_37 rfl rfl rfl ?_
    obtain ⟨v7, hv7, rv7⟩ := gRd I (by decide) (gsz hsz (by decide)) (ra_14 a).1
    refine g_zald2 (n := 39) (v := v7) X (by decide) (gsz hsz (by decide)) lay_14 (by omega) (by omega) (by decide) dX11_carry_38 rfl hv7 ?_
    refine g_if_ne (n := 42) (tgt := 55) X dX11_carry_39 (by decide) (by omega) rfl (fun c8 => ?_) (fun c8 => ?_)
    · refine g_bipush (n := 57) X dX11_carry_55 (by decide +kernel) rfl ?_
      exact hq _ _ _ _ dX11_carry_57 ⟨by omega, I, C, gFr.rf⟩
    · refine g_aload_n (n := 43) X 0 dX11_carry_42 rfl rfl rfl ?_
      obtain ⟨v9, hv9, rv9⟩ := gRd I (Po0 ro6) (Posz hsz ro6) (rP_5 ro6).1
      refine gg_6_5 (n := 46) (z := v9) X (Po0 ro6) (Posz hsz ro6) (lay2_P ro6) kw_1_193 dX11_carry_43 rfl hv9 ?_
      refine g_aload_n (n := 47) X 1 dX11_carry_46 rfl rfl rfl ?_
      refine gg_4_1 (n := 50) (z := 11) X (by decide) (gsz hsz (by decide)) lay_9 kw_1_65 dX11_carry_47 rfl (rf_9_1 I (gsz hsz (by decide))) (by decide) ?_
      refine g_iload_n (n := 51) X 3 dX11_carry_50 rfl rfl rfl ?_
      obtain ⟨v10, hv10, rv10⟩ := gRd I (by decide) (gsz hsz (by decide)) (ra_11 a).1
      refine g_iald2 (n := 52) (v := v10) X (by decide) (gsz hsz (by decide)) lay_11 (by omega) (by omega) (by decide) dX11_carry_51 rfl hv10 ?_
      refine g_icmp_eq (n := 55) (tgt := 58) X dX11_carry_52 (by decide) (by omega) (by omega) rfl (fun c11 => ?_) (fun c11 => ?_)
      · refine g_aload_n (n := 59) X 1 dX11_carry_58 rfl rfl rfl ?_
        refine gg_4_4 (n := 62) (z := 14) X (by decide) (gsz hsz (by decide)) lay_9 kw_1_71 dX11_carry_59 rfl (rf_9_4 I (gsz hsz (by decide))) (by decide) ?_
        refine g_iload_n (n := 63) X 3 dX11_carry_62 rfl rfl rfl ?_
        refine g_iconst (n := 64) X dX11_carry_63 rfl ?_
        refine g_zast (n := 65) (z := 1) X (by decide) (gsz hsz (by decide)) lay_14 (by omega) (by omega) (by decide) (g_zn (by omega)) dX11_carry_64 rfl ?_
        refine G.nm (fun M12 e13 => ?_)
        have IM12 : gI sz M12 := gI.set I (ra_14 a).1 (by omega) e13
        have CM12 : gC sz M12 := gC.set C (ra_14 a).2.1 e13
        refine g_aload_n (n := 66) X 0 dX11_carry_65 rfl rfl rfl ?_
        refine g_aload_n (n := 67) X 1 dX11_carry_66 rfl rfl rfl ?_
        refine gg_4_2 (n := 70) (z := 12) X (by decide) (gsz hsz (by decide)) lay_9 kw_1_67 dX11_carry_67 rfl (rf_9_2 IM12 (gsz hsz (by decide))) (by decide) ?_
        refine g_iload_n (n := 71) X 3 dX11_carry_70 rfl rfl rfl ?_
        obtain ⟨v14, hv14, rv14⟩ := gRd IM12 (by decide) (gsz hsz (by decide)) (ra_12 a).1
        refine g_iald2 (n := 72) (v := v14) X (by decide) (gsz hsz (by decide)) lay_12 (by omega) (by omega) (by decide) dX11_carry_71 rfl hv14 ?_
        refine gp_6_5 (n := 75) X (Po0 ro6) (Posz hsz ro6) (lay2_P ro6) kw_1_193 dX11_carry_72 rfl ?_
        refine G.nm (fun M15 e16 => ?_)
        have IM15 : gI sz M15 := gI.set IM12 (rP_5 ro6).1 (by omega) e16
        have CM15 : gC sz M15 := gC.at CM12 (by omega) (by omega) e16
        refine g_aload_n (n := 76) X 0 dX11_carry_75 rfl rfl rfl ?_
        refine gg_6_5 (n := 79) (z := v14) X (Po0 ro6) (Posz hsz ro6) (lay2_P ro6) kw_1_193 dX11_carry_76 rfl ((congrFun (congrFun e16 _) _).trans (gset_eq _ _ _ _)) ?_
        exact hq _ _ _ _ dX11_carry_79 ⟨by omega, IM15, CM15, (gFr.s (gFr.s gFr.rf e13 (ra_14 a).2.2 rfl) e16 (rP_5 ro6).2.2 rfl)⟩
      · refine g_bipush (n := 57) X dX11_carry_55 (by decide +kernel) rfl ?_
        exact hq _ _ _ _ dX11_carry_57 ⟨by omega, I, C, gFr.rf⟩
  · refine g_iconst (n := 9) X dX11_carry_8 rfl ?_
    exact hq _ _ _ _ dX11_carry_9 ⟨by omega, I, C, gFr.rf⟩
theorem dX11_house_0 : decode cX11_house 0 = .ok (.iload_n 1, 1) := dc_27 (by decide +kernel)
theorem dX11_house_1 : decode cX11_house 1 = .ok (.iconst 0, 1) := dc_3 (by decide +kernel)
theorem dX11_house_2 : decode cX11_house 2 = .ok (.iconst 4, 1) := dc_7 (by decide +kernel)
theorem dX11_house_3 : decode cX11_house 3 = .ok (.invokestatic 62, 3) := dc_184 0 62 (by decide +kernel)
theorem dX11_house_6 : decode cX11_house 6 = .ok (.ifCond .ne 5, 3) := dc_154 0 5 5 (by decide +kernel)
theorem dX11_house_11 : decode cX11_house 11 = .ok (.iload_n 2, 1) := dc_28 (by decide +kernel)
theorem dX11_house_12 : decode cX11_house 12 = .ok (.iconst 0, 1) := dc_3 (by decide +kernel)
theorem dX11_house_13 : decode cX11_house 13 = .ok (.iload_n 1, 1) := dc_27 (by decide +kernel)
theorem dX11_house_14 : decode cX11_house 14 = .ok (.iconst 4, 1) := dc_7 (by decide +kernel)
theorem dX11_house_15 : decode cX11_house 15 = .ok (.if_icmp .ne 9, 3) := dc_160 0 9 9 (by decide +kernel)
theorem dX11_house_24 : decode cX11_house 24 = .ok (.bipush 20, 2) := dc_16 20 20 (by decide +kernel)
theorem dX11_house_26 : decode cX11_house 26 = .ok (.invokestatic 62, 3) := dc_184 0 62 (by decide +kernel)
theorem dX11_house_29 : decode cX11_house 29 = .ok (.ifCond .ne 6, 3) := dc_154 0 6 6 (by decide +kernel)
theorem dX11_house_35 : decode cX11_house 35 = .ok (.aload_n 0, 1) := dc_42 (by decide +kernel)
theorem dX11_house_36 : decode cX11_house 36 = .ok (.getfield 10, 3) := dc_180 0 10 (by decide +kernel)
theorem dX11_house_39 : decode cX11_house 39 = .ok (.getfield 279, 3) := dc_180 1 23 (by decide +kernel)
theorem dX11_house_42 : decode cX11_house 42 = .ok (.astore_n 3, 1) := dc_78 (by decide +kernel)
theorem dX11_house_43 : decode cX11_house 43 = .ok (.iload_n 1, 1) := dc_27 (by decide +kernel)
theorem dX11_house_44 : decode cX11_house 44 = .ok (.iconst 4, 1) := dc_7 (by decide +kernel)
theorem dX11_house_45 : decode cX11_house 45 = .ok (.if_icmp .ne 10, 3) := dc_160 0 10 10 (by decide +kernel)
theorem dX11_house_55 : decode cX11_house 55 = .ok (.aload_n 3, 1) := dc_45 (by decide +kernel)
theorem dX11_house_56 : decode cX11_house 56 = .ok (.getfield 285, 3) := dc_180 1 29 (by decide +kernel)
theorem kw_1_97 : (Jvm.Cond.fieldLink "ParishUnion" (285 : Nat) "ParishUnion$House" "beds" "[I") ∈ gT := gT_of (tb_1 _ (List.mem_of_getElem? (i := 97) rfl)) rfl
theorem dX11_house_59 : decode cX11_house 59 = .ok (.iload_n 1, 1) := dc_27 (by decide +kernel)
theorem dX11_house_60 : decode cX11_house 60 = .ok (.iaload, 1) := dc_46 (by decide +kernel)
theorem dX11_house_61 : decode cX11_house 61 = .ok (.istore 4, 2) := dc_54 4 (by decide +kernel)
theorem dX11_house_63 : decode cX11_house 63 = .ok (.iload_n 1, 1) := dc_27 (by decide +kernel)
theorem dX11_house_64 : decode cX11_house 64 = .ok (.iconst 4, 1) := dc_7 (by decide +kernel)
theorem dX11_house_65 : decode cX11_house 65 = .ok (.if_icmp .ne 11, 3) := dc_160 0 11 11 (by decide +kernel)
theorem dX11_house_76 : decode cX11_house 76 = .ok (.aload_n 3, 1) := dc_45 (by decide +kernel)
theorem dX11_house_77 : decode cX11_house 77 = .ok (.getfield 285, 3) := dc_180 1 29 (by decide +kernel)
theorem dX11_house_80 : decode cX11_house 80 = .ok (.iload_n 1, 1) := dc_27 (by decide +kernel)
theorem dX11_house_81 : decode cX11_house 81 = .ok (.iload_n 2, 1) := dc_28 (by decide +kernel)
theorem dX11_house_82 : decode cX11_house 82 = .ok (.iastore, 1) := dc_79 (by decide +kernel)
theorem dX11_house_83 : decode cX11_house 83 = .ok (.iload 4, 2) := dc_21 4 (by decide +kernel)
theorem dX11_house_85 : decode cX11_house 85 = .ok (.ireturn, 1) := dc_172 (by decide +kernel)
theorem dX11_house_32 : decode cX11_house 32 = .ok (.bipush (-2), 2) := dc_16 254 (-2) (by decide +kernel)
theorem dX11_house_34 : decode cX11_house 34 = .ok (.ireturn, 1) := dc_172 (by decide +kernel)
theorem dX11_house_18 : decode cX11_house 18 = .ok (.sipush 9999, 3) := dc_17 39 15 9999 (by decide +kernel)
theorem dX11_house_21 : decode cX11_house 21 = .ok (.goto 5, 3) := dc_167 0 5 5 (by decide +kernel)
theorem dX11_house_48 : decode cX11_house 48 = .ok (.aload_n 3, 1) := dc_45 (by decide +kernel)
theorem dX11_house_49 : decode cX11_house 49 = .ok (.getfield 282, 3) := dc_180 1 26 (by decide +kernel)
theorem kw_1_111 : (Jvm.Cond.fieldLink "ParishUnion" (282 : Nat) "ParishUnion$House" "store" "I") ∈ gT := gT_of (tb_1 _ (List.mem_of_getElem? (i := 111) rfl)) rfl
theorem dX11_house_52 : decode cX11_house 52 = .ok (.goto 9, 3) := dc_167 0 9 9 (by decide +kernel)
theorem dX11_house_68 : decode cX11_house 68 = .ok (.aload_n 3, 1) := dc_45 (by decide +kernel)
theorem dX11_house_69 : decode cX11_house 69 = .ok (.iload_n 2, 1) := dc_28 (by decide +kernel)
theorem dX11_house_70 : decode cX11_house 70 = .ok (.putfield 282, 3) := dc_181 1 26 (by decide +kernel)
theorem dX11_house_73 : decode cX11_house 73 = .ok (.goto 10, 3) := dc_167 0 10 10 (by decide +kernel)
theorem dX11_house_9 : decode cX11_house 9 = .ok (.iconst (-1), 1) := dc_2 (by decide +kernel)
theorem dX11_house_10 : decode cX11_house 10 = .ok (.ireturn, 1) := dc_172 (by decide +kernel)
abbrev R_X11_house : Room := { frames := 1, cells := 0, slots := 0, locals := 22 }
set_option maxRecDepth 100000 in
set_option maxHeartbeats 4000000 in
theorem s_X11_house {l : Launch} {n0 : Nat} {D : va_G} {cA : Nat → ClassId} {M : gM} (a : Int) (r_a : -2147483648 ≤ a ∧ a ≤ 2147483647) (b : Int) (r_b : -2147483648 ≤ b ∧ b ≤ 2147483647) {sz : Nat} (hsz : 206 ≤ sz) (I : gI sz M) (C : gC sz M)   : Met l yX11_house (gWsOf yX11_house cX11_house 5 (Option.some Jvm.ClassFile.FieldType.int)) R_X11_house (gPc n0 D cA [gA n0 0, gJ a, gJ b] M sz) (gQi n0 D cA sz (fun z M1 => (-2147483648 ≤ z ∧ z ≤ 2147483647) ∧ gI sz M1 ∧ gC sz M1 ∧ gFr 2048 M M1)) 0 0 (fun q => n0 ≤ q) := by
  refine gMetI [gA n0 0, gJ a, gJ b] (by decide) (Nat.le_of_ble_eq_true rfl) ⟨rfl, rfl⟩ ?_
  intro p e s m args below meth cd Q X hq
  have X : gCx p s m args meth cd n0 D cA "ParishUnion" cX11_house 5 := X
  show G p l e R_X11_house s m args below meth cd n0 D cA 5 Q 0 0 M sz 0 [(0, gA n0 0), (1, gJ a), (2, gJ b)] []
  refine g_iload_n (n := 1) X 1 dX11_house_0 rfl rfl rfl ?_
  refine g_iconst (n := 2) X dX11_house_1 rfl ?_
  refine g_iconst (n := 3) X dX11_house_2 rfl ?_
  refine g_callSi (n := 6) (As := [gJ a, gJ 0, gJ 4]) (rest := []) (cs1 := 0) (ss1 := 0) X (s_X11_within a (by omega) 0 (by omega) 4 (by omega) hsz I C ) okX11_within kw_3_29 kw_3_30 ⟨rfl, rfl⟩ ⟨Nat.le_of_ble_eq_true rfl, Nat.le_of_ble_eq_true rfl⟩ rfl rfl (Nat.le_of_ble_eq_true rfl) ⟨Nat.le_of_ble_eq_true rfl, Nat.le_of_ble_eq_true rfl⟩ rfl rfl dX11_house_3 rfl (fun v1 M2 P3 => ?_)
  obtain ⟨rfl, rv1, xv1⟩ := P3
  refine g_if_ne (n := 9) (tgt := 11) X dX11_house_6 (by decide) (by omega) rfl (fun c4 => ?_) (fun c4 => ?_)
  · refine g_iload_n (n := 12) X 2 dX11_house_11 rfl rfl rfl ?_
    refine g_iconst (n := 13) X dX11_house_12 rfl ?_
    refine g_iload_n (n := 14) X 1 dX11_house_13 rfl rfl rfl ?_
    refine g_iconst (n := 15) X dX11_house_14 rfl ?_
    refine g_icmp_ne (n := 18) (tgt := 24) X dX11_house_15 (by decide) (by omega) (by omega) rfl (fun c5 => ?_) (fun c5 => ?_)
    · refine g_bipush (n := 26) X dX11_house_24 (by decide +kernel) rfl ?_
      refine g_callSi (n := 29) (As := [gJ b, gJ 0, gJ 20]) (rest := []) (cs1 := 0) (ss1 := 0) X (s_X11_within b (by omega) 0 (by omega) 20 (by omega) hsz I C ) okX11_within kw_3_29 kw_3_30 ⟨rfl, rfl⟩ ⟨Nat.le_of_ble_eq_true rfl, Nat.le_of_ble_eq_true rfl⟩ rfl rfl (Nat.le_of_ble_eq_true rfl) ⟨Nat.le_of_ble_eq_true rfl, Nat.le_of_ble_eq_true rfl⟩ rfl rfl dX11_house_26 rfl (fun v6 M7 P8 => ?_)
      obtain ⟨rfl, rv6, xv6⟩ := P8
      refine g_if_ne (n := 32) (tgt := 35) X dX11_house_29 (by decide) (by omega) rfl (fun c9 => ?_) (fun c9 => ?_)
      · refine g_aload_n (n := 36) X 0 dX11_house_35 rfl rfl rfl ?_
        refine gg_11_0 (n := 39) (z := 1) X (by decide) (gsz hsz (by decide)) lay_0 kw_2_231 dX11_house_36 rfl (rf_0_0 I (gsz hsz (by decide))) (by decide) ?_
        refine gg_9_6 (n := 42) (z := 15) X (by decide) (gsz hsz (by decide)) lay_1 kw_2_119 dX11_house_39 rfl (rf_1_6 I (gsz hsz (by decide))) (by decide) ?_
        refine g_astore_n (n := 43) (L' := [(3, gA n0 15), (0, gA n0 0), (1, gJ a), (2, gJ b)]) X dX11_house_42 rfl (by decide) rfl rfl ?_
        refine g_iload_n (n := 44) X 2 dX11_house_43 rfl rfl rfl ?_
        refine g_iconst (n := 45) X dX11_house_44 rfl ?_
        refine g_icmp_ne (n := 48) (tgt := 55) X dX11_house_45 (by decide) (by omega) (by omega) rfl (fun c10 => ?_) (fun c10 => by exfalso; omega)
        refine g_aload_n (n := 56) X 0 dX11_house_55 rfl rfl rfl ?_
        refine gg_2_0 (n := 59) (z := 16) X (by decide) (gsz hsz (by decide)) lay_15 kw_1_97 dX11_house_56 rfl (rf_15_0 I (gsz hsz (by decide))) (by decide) ?_
        refine g_iload_n (n := 60) X 2 dX11_house_59 rfl rfl rfl ?_
        obtain ⟨v11, hv11, rv11⟩ := gRd I (by decide) (gsz hsz (by decide)) (ra_16 a).1
        refine g_iald2 (n := 61) (v := v11) X (by decide) (gsz hsz (by decide)) lay_16 (by omega) (by omega) (by decide) dX11_house_60 rfl hv11 ?_
        refine g_istore (n := 63) (L' := [(4, gJ v11), (3, gA n0 15), (0, gA n0 0), (1, gJ a), (2, gJ b)]) X dX11_house_61 (by decide) rfl rfl ?_
        refine g_iload_n (n := 64) X 3 dX11_house_63 rfl rfl rfl ?_
        refine g_iconst (n := 65) X dX11_house_64 rfl ?_
        refine g_icmp_ne (n := 68) (tgt := 76) X dX11_house_65 (by decide) (by omega) (by omega) rfl (fun c12 => ?_) (fun c12 => by exfalso; omega)
        refine g_aload_n (n := 77) X 1 dX11_house_76 rfl rfl rfl ?_
        refine gg_2_0 (n := 80) (z := 16) X (by decide) (gsz hsz (by decide)) lay_15 kw_1_97 dX11_house_77 rfl (rf_15_0 I (gsz hsz (by decide))) (by decide) ?_
        refine g_iload_n (n := 81) X 3 dX11_house_80 rfl rfl rfl ?_
        refine g_iload_n (n := 82) X 4 dX11_house_81 rfl rfl rfl ?_
        refine g_iast (n := 83) X (by decide) (gsz hsz (by decide)) lay_16 (by omega) (by omega) (by decide) dX11_house_82 rfl ?_
        refine G.nm (fun M13 e14 => ?_)
        have IM13 : gI sz M13 := gI.set I (ra_16 a).1 (by omega) e14
        have CM13 : gC sz M13 := gC.set C (ra_16 a).2.1 e14
        refine g_iload (n := 85) X 0 dX11_house_83 rfl rfl ?_
        exact hq _ _ _ _ dX11_house_85 ⟨by omega, IM13, CM13, (gFr.s gFr.rf e14 (ra_16 a).2.2 rfl)⟩
      · refine g_bipush (n := 34) X dX11_house_32 (by decide +kernel) rfl ?_
        exact hq _ _ _ _ dX11_house_34 ⟨by omega, I, C, gFr.rf⟩
    · refine g_sipush (n := 21) X dX11_house_18 (by decide +kernel) rfl ?_
      refine g_goto (tgt := 26) X dX11_house_21 (by decide) ?_
      refine g_callSi (n := 29) (As := [gJ b, gJ 0, gJ 9999]) (rest := []) (cs1 := 0) (ss1 := 0) X (s_X11_within b (by omega) 0 (by omega) 9999 (by omega) hsz I C ) okX11_within kw_3_29 kw_3_30 ⟨rfl, rfl⟩ ⟨Nat.le_of_ble_eq_true rfl, Nat.le_of_ble_eq_true rfl⟩ rfl rfl (Nat.le_of_ble_eq_true rfl) ⟨Nat.le_of_ble_eq_true rfl, Nat.le_of_ble_eq_true rfl⟩ rfl rfl dX11_house_26 rfl (fun v15 M16 P17 => ?_)
      obtain ⟨rfl, rv15, xv15⟩ := P17
      refine g_if_ne (n := 32) (tgt := 35) X dX11_house_29 (by decide) (by omega) rfl (fun c18 => ?_) (fun c18 => ?_)
      · refine g_aload_n (n := 36) X 0 dX11_house_35 rfl rfl rfl ?_
        refine gg_11_0 (n := 39) (z := 1) X (by decide) (gsz hsz (by decide)) lay_0 kw_2_231 dX11_house_36 rfl (rf_0_0 I (gsz hsz (by decide))) (by decide) ?_
        refine gg_9_6 (n := 42) (z := 15) X (by decide) (gsz hsz (by decide)) lay_1 kw_2_119 dX11_house_39 rfl (rf_1_6 I (gsz hsz (by decide))) (by decide) ?_
        refine g_astore_n (n := 43) (L' := [(3, gA n0 15), (0, gA n0 0), (1, gJ a), (2, gJ b)]) X dX11_house_42 rfl (by decide) rfl rfl ?_
        refine g_iload_n (n := 44) X 2 dX11_house_43 rfl rfl rfl ?_
        refine g_iconst (n := 45) X dX11_house_44 rfl ?_
        refine g_icmp_ne (n := 48) (tgt := 55) X dX11_house_45 (by decide) (by omega) (by omega) rfl (fun c19 => by exfalso; omega) (fun c19 => ?_)
        refine g_aload_n (n := 49) X 0 dX11_house_48 rfl rfl rfl ?_
        obtain ⟨v20, hv20, rv20⟩ := gRd I (by decide) (gsz hsz (by decide)) rc_15_8.1
        refine gg_2_8 (n := 52) (z := v20) X (by decide) (gsz hsz (by decide)) lay_15 kw_1_111 dX11_house_49 rfl hv20 ?_
        refine g_goto (tgt := 61) X dX11_house_52 (by decide) ?_
        refine g_istore (n := 63) (L' := [(4, gJ v20), (3, gA n0 15), (0, gA n0 0), (1, gJ a), (2, gJ b)]) X dX11_house_61 (by decide) rfl rfl ?_
        refine g_iload_n (n := 64) X 3 dX11_house_63 rfl rfl rfl ?_
        refine g_iconst (n := 65) X dX11_house_64 rfl ?_
        refine g_icmp_ne (n := 68) (tgt := 76) X dX11_house_65 (by decide) (by omega) (by omega) rfl (fun c21 => by exfalso; omega) (fun c21 => ?_)
        refine g_aload_n (n := 69) X 1 dX11_house_68 rfl rfl rfl ?_
        refine g_iload_n (n := 70) X 4 dX11_house_69 rfl rfl rfl ?_
        refine gp_2_8 (n := 73) X (by decide) (gsz hsz (by decide)) lay_15 kw_1_111 dX11_house_70 rfl ?_
        refine G.nm (fun M22 e23 => ?_)
        have IM22 : gI sz M22 := gI.set I rc_15_8.1 (by omega) e23
        have CM22 : gC sz M22 := gC.set C rc_15_8.2.1 e23
        refine g_goto (tgt := 83) X dX11_house_73 (by decide) ?_
        refine g_iload (n := 85) X 0 dX11_house_83 rfl rfl ?_
        exact hq _ _ _ _ dX11_house_85 ⟨by omega, IM22, CM22, (gFr.s gFr.rf e23 rc_15_8.2.2 rfl)⟩
      · refine g_bipush (n := 34) X dX11_house_32 (by decide +kernel) rfl ?_
        exact hq _ _ _ _ dX11_house_34 ⟨by omega, I, C, gFr.rf⟩
  · refine g_iconst (n := 10) X dX11_house_9 rfl ?_
    exact hq _ _ _ _ dX11_house_10 ⟨by omega, I, C, gFr.rf⟩
theorem dX11_price_0 : decode cX11_price 0 = .ok (.iload_n 1, 1) := dc_27 (by decide +kernel)
theorem dX11_price_1 : decode cX11_price 1 = .ok (.iconst 0, 1) := dc_3 (by decide +kernel)
theorem dX11_price_2 : decode cX11_price 2 = .ok (.bipush 99, 2) := dc_16 99 99 (by decide +kernel)
theorem dX11_price_4 : decode cX11_price 4 = .ok (.invokestatic 62, 3) := dc_184 0 62 (by decide +kernel)
theorem dX11_price_7 : decode cX11_price 7 = .ok (.ifCond .ne 6, 3) := dc_154 0 6 6 (by decide +kernel)
theorem dX11_price_13 : decode cX11_price 13 = .ok (.aload_n 0, 1) := dc_42 (by decide +kernel)
theorem dX11_price_14 : decode cX11_price 14 = .ok (.getfield 10, 3) := dc_180 0 10 (by decide +kernel)
theorem dX11_price_17 : decode cX11_price 17 = .ok (.getfield 279, 3) := dc_180 1 23 (by decide +kernel)
theorem dX11_price_20 : decode cX11_price 20 = .ok (.getfield 288, 3) := dc_180 1 32 (by decide +kernel)
theorem kw_1_114 : (Jvm.Cond.fieldLink "ParishUnion" (288 : Nat) "ParishUnion$House" "price" "I") ∈ gT := gT_of (tb_1 _ (List.mem_of_getElem? (i := 114) rfl)) rfl
theorem dX11_price_23 : decode cX11_price 23 = .ok (.istore_n 2, 1) := dc_61 (by decide +kernel)
theorem dX11_price_24 : decode cX11_price 24 = .ok (.aload_n 0, 1) := dc_42 (by decide +kernel)
theorem dX11_price_25 : decode cX11_price 25 = .ok (.getfield 10, 3) := dc_180 0 10 (by decide +kernel)
theorem dX11_price_28 : decode cX11_price 28 = .ok (.getfield 279, 3) := dc_180 1 23 (by decide +kernel)
theorem dX11_price_31 : decode cX11_price 31 = .ok (.iload_n 1, 1) := dc_27 (by decide +kernel)
theorem dX11_price_32 : decode cX11_price 32 = .ok (.putfield 288, 3) := dc_181 1 32 (by decide +kernel)
theorem dX11_price_35 : decode cX11_price 35 = .ok (.iload_n 2, 1) := dc_28 (by decide +kernel)
theorem dX11_price_36 : decode cX11_price 36 = .ok (.ireturn, 1) := dc_172 (by decide +kernel)
theorem dX11_price_10 : decode cX11_price 10 = .ok (.bipush (-2), 2) := dc_16 254 (-2) (by decide +kernel)
theorem dX11_price_12 : decode cX11_price 12 = .ok (.ireturn, 1) := dc_172 (by decide +kernel)
abbrev R_X11_price : Room := { frames := 1, cells := 0, slots := 0, locals := 22 }
set_option maxRecDepth 100000 in
set_option maxHeartbeats 4000000 in
theorem s_X11_price {l : Launch} {n0 : Nat} {D : va_G} {cA : Nat → ClassId} {M : gM} (a : Int) (r_a : -2147483648 ≤ a ∧ a ≤ 2147483647) {sz : Nat} (hsz : 206 ≤ sz) (I : gI sz M) (C : gC sz M)   : Met l yX11_price (gWsOf yX11_price cX11_price 3 (Option.some Jvm.ClassFile.FieldType.int)) R_X11_price (gPc n0 D cA [gA n0 0, gJ a] M sz) (gQi n0 D cA sz (fun z M1 => (-2147483648 ≤ z ∧ z ≤ 2147483647) ∧ gI sz M1 ∧ gC sz M1 ∧ gFr 32768 M M1 ∧ ((¬ (0 ≤ a ∧ a ≤ 99) ∧ z = -2 ∧ M1 15 9 = M 15 9) ∨ ((0 ≤ a ∧ a ≤ 99) ∧ z = M 15 9 ∧ M1 15 9 = a)))) 0 0 (fun q => n0 ≤ q) := by
  refine gMetI [gA n0 0, gJ a] (by decide) (Nat.le_of_ble_eq_true rfl) ⟨rfl, rfl⟩ ?_
  intro p e s m args below meth cd Q X hq
  have X : gCx p s m args meth cd n0 D cA "ParishUnion" cX11_price 3 := X
  show G p l e R_X11_price s m args below meth cd n0 D cA 3 Q 0 0 M sz 0 [(0, gA n0 0), (1, gJ a)] []
  obtain ⟨v1, hv1, rv1⟩ := gRd I (by decide) (gsz hsz (by decide)) rc_15_9.1
  refine g_iload_n (n := 1) X 1 dX11_price_0 rfl rfl rfl ?_
  refine g_iconst (n := 2) X dX11_price_1 rfl ?_
  refine g_bipush (n := 4) X dX11_price_2 (by decide +kernel) rfl ?_
  refine g_callSi (n := 7) (As := [gJ a, gJ 0, gJ 99]) (rest := []) (cs1 := 0) (ss1 := 0) X (s_X11_within a (by omega) 0 (by omega) 99 (by omega) hsz I C ) okX11_within kw_3_29 kw_3_30 ⟨rfl, rfl⟩ ⟨Nat.le_of_ble_eq_true rfl, Nat.le_of_ble_eq_true rfl⟩ rfl rfl (Nat.le_of_ble_eq_true rfl) ⟨Nat.le_of_ble_eq_true rfl, Nat.le_of_ble_eq_true rfl⟩ rfl rfl dX11_price_4 rfl (fun v2 M3 P4 => ?_)
  obtain ⟨rfl, rv2, xv2⟩ := P4
  refine g_if_ne (n := 10) (tgt := 13) X dX11_price_7 (by decide) (by omega) rfl (fun c5 => ?_) (fun c5 => ?_)
  · refine g_aload_n (n := 14) X 0 dX11_price_13 rfl rfl rfl ?_
    refine gg_11_0 (n := 17) (z := 1) X (by decide) (gsz hsz (by decide)) lay_0 kw_2_231 dX11_price_14 rfl (rf_0_0 I (gsz hsz (by decide))) (by decide) ?_
    refine gg_9_6 (n := 20) (z := 15) X (by decide) (gsz hsz (by decide)) lay_1 kw_2_119 dX11_price_17 rfl (rf_1_6 I (gsz hsz (by decide))) (by decide) ?_
    refine gg_2_9 (n := 23) (z := v1) X (by decide) (gsz hsz (by decide)) lay_15 kw_1_114 dX11_price_20 rfl hv1 ?_
    refine g_istore_n (n := 24) (L' := [(2, gJ v1), (0, gA n0 0), (1, gJ a)]) X dX11_price_23 rfl (by decide) rfl rfl ?_
    refine g_aload_n (n := 25) X 1 dX11_price_24 rfl rfl rfl ?_
    refine gg_11_0 (n := 28) (z := 1) X (by decide) (gsz hsz (by decide)) lay_0 kw_2_231 dX11_price_25 rfl (rf_0_0 I (gsz hsz (by decide))) (by decide) ?_
    refine gg_9_6 (n := 31) (z := 15) X (by decide) (gsz hsz (by decide)) lay_1 kw_2_119 dX11_price_28 rfl (rf_1_6 I (gsz hsz (by decide))) (by decide) ?_
    refine g_iload_n (n := 32) X 2 dX11_price_31 rfl rfl rfl ?_
    refine gp_2_9 (n := 35) X (by decide) (gsz hsz (by decide)) lay_15 kw_1_114 dX11_price_32 rfl ?_
    refine G.nm (fun M6 e7 => ?_)
    have IM6 : gI sz M6 := gI.set I rc_15_9.1 (by omega) e7
    have CM6 : gC sz M6 := gC.set C rc_15_9.2.1 e7
    refine g_iload_n (n := 36) X 0 dX11_price_35 rfl rfl rfl ?_
    exact hq _ _ _ _ dX11_price_36 ⟨by omega, IM6, CM6, (gFr.s gFr.rf e7 rc_15_9.2.2 rfl), by have q0 := ((congrFun (congrFun e7 _) _).trans (gset_eq _ _ _ _)); omega⟩
  · refine g_bipush (n := 12) X dX11_price_10 (by decide +kernel) rfl ?_
    exact hq _ _ _ _ dX11_price_12 ⟨by omega, I, C, gFr.rf, by have q0 := hv1; omega⟩
theorem dX11_frost_0 : decode cX11_frost 0 = .ok (.iload_n 1, 1) := dc_27 (by decide +kernel)
theorem dX11_frost_1 : decode cX11_frost 1 = .ok (.iconst 0, 1) := dc_3 (by decide +kernel)
theorem dX11_frost_2 : decode cX11_frost 2 = .ok (.sipush 300, 3) := dc_17 1 44 300 (by decide +kernel)
theorem dX11_frost_5 : decode cX11_frost 5 = .ok (.invokestatic 62, 3) := dc_184 0 62 (by decide +kernel)
theorem dX11_frost_8 : decode cX11_frost 8 = .ok (.ifCond .eq 13, 3) := dc_153 0 13 13 (by decide +kernel)
theorem dX11_frost_21 : decode cX11_frost 21 = .ok (.bipush (-2), 2) := dc_16 254 (-2) (by decide +kernel)
theorem dX11_frost_23 : decode cX11_frost 23 = .ok (.ireturn, 1) := dc_172 (by decide +kernel)
theorem dX11_frost_11 : decode cX11_frost 11 = .ok (.iload_n 2, 1) := dc_28 (by decide +kernel)
theorem dX11_frost_12 : decode cX11_frost 12 = .ok (.iconst 0, 1) := dc_3 (by decide +kernel)
theorem dX11_frost_13 : decode cX11_frost 13 = .ok (.bipush 9, 2) := dc_16 9 9 (by decide +kernel)
theorem dX11_frost_15 : decode cX11_frost 15 = .ok (.invokestatic 62, 3) := dc_184 0 62 (by decide +kernel)
theorem dX11_frost_18 : decode cX11_frost 18 = .ok (.ifCond .ne 6, 3) := dc_154 0 6 6 (by decide +kernel)
theorem dX11_frost_24 : decode cX11_frost 24 = .ok (.iload_n 1, 1) := dc_27 (by decide +kernel)
theorem dX11_frost_25 : decode cX11_frost 25 = .ok (.aload_n 0, 1) := dc_42 (by decide +kernel)
theorem dX11_frost_26 : decode cX11_frost 26 = .ok (.getfield 10, 3) := dc_180 0 10 (by decide +kernel)
theorem dX11_frost_29 : decode cX11_frost 29 = .ok (.getfield 85, 3) := dc_180 0 85 (by decide +kernel)
theorem dX11_frost_32 : decode cX11_frost 32 = .ok (.if_icmp .ge 6, 3) := dc_162 0 6 6 (by decide +kernel)
theorem dX11_frost_38 : decode cX11_frost 38 = .ok (.aload_n 0, 1) := dc_42 (by decide +kernel)
theorem dX11_frost_39 : decode cX11_frost 39 = .ok (.getfield 10, 3) := dc_180 0 10 (by decide +kernel)
theorem dX11_frost_42 : decode cX11_frost 42 = .ok (.getfield 279, 3) := dc_180 1 23 (by decide +kernel)
theorem dX11_frost_45 : decode cX11_frost 45 = .ok (.getfield 291, 3) := dc_180 1 35 (by decide +kernel)
theorem kw_1_100 : (Jvm.Cond.fieldLink "ParishUnion" (291 : Nat) "ParishUnion$House" "frost" "[I") ∈ gT := gT_of (tb_1 _ (List.mem_of_getElem? (i := 100) rfl)) rfl
theorem dX11_frost_48 : decode cX11_frost 48 = .ok (.iload_n 1, 1) := dc_27 (by decide +kernel)
theorem dX11_frost_49 : decode cX11_frost 49 = .ok (.iaload, 1) := dc_46 (by decide +kernel)
theorem dX11_frost_50 : decode cX11_frost 50 = .ok (.istore_n 3, 1) := dc_62 (by decide +kernel)
theorem dX11_frost_51 : decode cX11_frost 51 = .ok (.aload_n 0, 1) := dc_42 (by decide +kernel)
theorem dX11_frost_52 : decode cX11_frost 52 = .ok (.getfield 10, 3) := dc_180 0 10 (by decide +kernel)
theorem dX11_frost_55 : decode cX11_frost 55 = .ok (.getfield 279, 3) := dc_180 1 23 (by decide +kernel)
theorem dX11_frost_58 : decode cX11_frost 58 = .ok (.getfield 291, 3) := dc_180 1 35 (by decide +kernel)
theorem dX11_frost_61 : decode cX11_frost 61 = .ok (.iload_n 1, 1) := dc_27 (by decide +kernel)
theorem dX11_frost_62 : decode cX11_frost 62 = .ok (.iload_n 2, 1) := dc_28 (by decide +kernel)
theorem dX11_frost_63 : decode cX11_frost 63 = .ok (.iastore, 1) := dc_79 (by decide +kernel)
theorem dX11_frost_64 : decode cX11_frost 64 = .ok (.iload_n 3, 1) := dc_29 (by decide +kernel)
theorem dX11_frost_65 : decode cX11_frost 65 = .ok (.ireturn, 1) := dc_172 (by decide +kernel)
theorem dX11_frost_35 : decode cX11_frost 35 = .ok (.bipush (-3), 2) := dc_16 253 (-3) (by decide +kernel)
theorem dX11_frost_37 : decode cX11_frost 37 = .ok (.ireturn, 1) := dc_172 (by decide +kernel)
abbrev R_X11_frost : Room := { frames := 1, cells := 0, slots := 0, locals := 22 }
set_option maxRecDepth 100000 in
set_option maxHeartbeats 4000000 in
theorem s_X11_frost {l : Launch} {n0 : Nat} {D : va_G} {cA : Nat → ClassId} {M : gM} (a : Int) (r_a : -2147483648 ≤ a ∧ a ≤ 2147483647) (b : Int) (r_b : -2147483648 ≤ b ∧ b ≤ 2147483647) {sz : Nat} (hsz : 206 ≤ sz) (I : gI sz M) (C : gC sz M)   : Met l yX11_frost (gWsOf yX11_frost cX11_frost 4 (Option.some Jvm.ClassFile.FieldType.int)) R_X11_frost (gPc n0 D cA [gA n0 0, gJ a, gJ b] M sz) (gQi n0 D cA sz (fun z M1 => (-2147483648 ≤ z ∧ z ≤ 2147483647) ∧ gI sz M1 ∧ gC sz M1 ∧ gFr 4096 M M1 ∧ ((((¬ ((0 ≤ a ∧ a ≤ 300) ∧ (0 ≤ b ∧ b ≤ 9)) ∧ z = -2) ∨ (((0 ≤ a ∧ a ≤ 300) ∧ (0 ≤ b ∧ b ≤ 9)) ∧ a < M 1 15 ∧ z = -3)) ∧ (∀ k : Int, 0 ≤ k → k < 301 → M1 17 k = M 17 k)) ∨ (((0 ≤ a ∧ a ≤ 300) ∧ (0 ≤ b ∧ b ≤ 9)) ∧ ¬ a < M 1 15 ∧ z = M 17 a ∧ (∀ k : Int, 0 ≤ k → k < 301 → ¬ k = a → M1 17 k = M 17 k) ∧ M1 17 a = b)))) 0 0 (fun q => n0 ≤ q) := by
  refine gMetI [gA n0 0, gJ a, gJ b] (by decide) (Nat.le_of_ble_eq_true rfl) ⟨rfl, rfl⟩ ?_
  intro p e s m args below meth cd Q X hq
  have X : gCx p s m args meth cd n0 D cA "ParishUnion" cX11_frost 4 := X
  show G p l e R_X11_frost s m args below meth cd n0 D cA 4 Q 0 0 M sz 0 [(0, gA n0 0), (1, gJ a), (2, gJ b)] []
  obtain ⟨v1, hv1, rv1⟩ := gRd I (by decide) (gsz hsz (by decide)) rc_1_15.1
  refine g_iload_n (n := 1) X 1 dX11_frost_0 rfl rfl rfl ?_
  refine g_iconst (n := 2) X dX11_frost_1 rfl ?_
  refine g_sipush (n := 5) X dX11_frost_2 (by decide +kernel) rfl ?_
  refine g_callSi (n := 8) (As := [gJ a, gJ 0, gJ 300]) (rest := []) (cs1 := 0) (ss1 := 0) X (s_X11_within a (by omega) 0 (by omega) 300 (by omega) hsz I C ) okX11_within kw_3_29 kw_3_30 ⟨rfl, rfl⟩ ⟨Nat.le_of_ble_eq_true rfl, Nat.le_of_ble_eq_true rfl⟩ rfl rfl (Nat.le_of_ble_eq_true rfl) ⟨Nat.le_of_ble_eq_true rfl, Nat.le_of_ble_eq_true rfl⟩ rfl rfl dX11_frost_5 rfl (fun v2 M3 P4 => ?_)
  obtain ⟨rfl, rv2, xv2⟩ := P4
  refine g_if_eq (n := 11) (tgt := 21) X dX11_frost_8 (by decide) (by omega) rfl (fun c5 => ?_) (fun c5 => ?_)
  · refine g_bipush (n := 23) X dX11_frost_21 (by decide +kernel) rfl ?_
    exact hq _ _ _ _ dX11_frost_23 ⟨by omega, I, C, gFr.rf, Or.inl ⟨by omega, fun k h0 h1 => rfl⟩⟩
  · refine g_iload_n (n := 12) X 2 dX11_frost_11 rfl rfl rfl ?_
    refine g_iconst (n := 13) X dX11_frost_12 rfl ?_
    refine g_bipush (n := 15) X dX11_frost_13 (by decide +kernel) rfl ?_
    refine g_callSi (n := 18) (As := [gJ b, gJ 0, gJ 9]) (rest := []) (cs1 := 0) (ss1 := 0) X (s_X11_within b (by omega) 0 (by omega) 9 (by omega) hsz I C ) okX11_within kw_3_29 kw_3_30 ⟨rfl, rfl⟩ ⟨Nat.le_of_ble_eq_true rfl, Nat.le_of_ble_eq_true rfl⟩ rfl rfl (Nat.le_of_ble_eq_true rfl) ⟨Nat.le_of_ble_eq_true rfl, Nat.le_of_ble_eq_true rfl⟩ rfl rfl dX11_frost_15 rfl (fun v6 M7 P8 => ?_)
    obtain ⟨rfl, rv6, xv6⟩ := P8
    refine g_if_ne (n := 21) (tgt := 24) X dX11_frost_18 (by decide) (by omega) rfl (fun c9 => ?_) (fun c9 => ?_)
    · refine g_iload_n (n := 25) X 1 dX11_frost_24 rfl rfl rfl ?_
      refine g_aload_n (n := 26) X 0 dX11_frost_25 rfl rfl rfl ?_
      refine gg_11_0 (n := 29) (z := 1) X (by decide) (gsz hsz (by decide)) lay_0 kw_2_231 dX11_frost_26 rfl (rf_0_0 I (gsz hsz (by decide))) (by decide) ?_
      refine gg_9_15 (n := 32) (z := v1) X (by decide) (gsz hsz (by decide)) lay_1 kw_2_139 dX11_frost_29 rfl hv1 ?_
      refine g_icmp_ge (n := 35) (tgt := 38) X dX11_frost_32 (by decide) (by omega) (by omega) rfl (fun c10 => ?_) (fun c10 => ?_)
      · refine g_aload_n (n := 39) X 0 dX11_frost_38 rfl rfl rfl ?_
        refine gg_11_0 (n := 42) (z := 1) X (by decide) (gsz hsz (by decide)) lay_0 kw_2_231 dX11_frost_39 rfl (rf_0_0 I (gsz hsz (by decide))) (by decide) ?_
        refine gg_9_6 (n := 45) (z := 15) X (by decide) (gsz hsz (by decide)) lay_1 kw_2_119 dX11_frost_42 rfl (rf_1_6 I (gsz hsz (by decide))) (by decide) ?_
        refine gg_2_1 (n := 48) (z := 17) X (by decide) (gsz hsz (by decide)) lay_15 kw_1_100 dX11_frost_45 rfl (rf_15_1 I (gsz hsz (by decide))) (by decide) ?_
        refine g_iload_n (n := 49) X 1 dX11_frost_48 rfl rfl rfl ?_
        obtain ⟨v11, hv11, rv11⟩ := gRd I (by decide) (gsz hsz (by decide)) (ra_17 a).1
        refine g_iald2 (n := 50) (v := v11) X (by decide) (gsz hsz (by decide)) lay_17 (by omega) (by omega) (by decide) dX11_frost_49 rfl hv11 ?_
        refine g_istore_n (n := 51) (L' := [(3, gJ v11), (0, gA n0 0), (1, gJ a), (2, gJ b)]) X dX11_frost_50 rfl (by decide) rfl rfl ?_
        refine g_aload_n (n := 52) X 1 dX11_frost_51 rfl rfl rfl ?_
        refine gg_11_0 (n := 55) (z := 1) X (by decide) (gsz hsz (by decide)) lay_0 kw_2_231 dX11_frost_52 rfl (rf_0_0 I (gsz hsz (by decide))) (by decide) ?_
        refine gg_9_6 (n := 58) (z := 15) X (by decide) (gsz hsz (by decide)) lay_1 kw_2_119 dX11_frost_55 rfl (rf_1_6 I (gsz hsz (by decide))) (by decide) ?_
        refine gg_2_1 (n := 61) (z := 17) X (by decide) (gsz hsz (by decide)) lay_15 kw_1_100 dX11_frost_58 rfl (rf_15_1 I (gsz hsz (by decide))) (by decide) ?_
        refine g_iload_n (n := 62) X 2 dX11_frost_61 rfl rfl rfl ?_
        refine g_iload_n (n := 63) X 3 dX11_frost_62 rfl rfl rfl ?_
        refine g_iast (n := 64) X (by decide) (gsz hsz (by decide)) lay_17 (by omega) (by omega) (by decide) dX11_frost_63 rfl ?_
        refine G.nm (fun M12 e13 => ?_)
        have IM12 : gI sz M12 := gI.set I (ra_17 a).1 (by omega) e13
        have CM12 : gC sz M12 := gC.set C (ra_17 a).2.1 e13
        refine g_iload_n (n := 65) X 0 dX11_frost_64 rfl rfl rfl ?_
        exact hq _ _ _ _ dX11_frost_65 ⟨by omega, IM12, CM12, (gFr.s gFr.rf e13 (ra_17 a).2.2 rfl), Or.inr ⟨by omega, by omega, (hv11).symm, (fun k h0 h1 hk => by rw [e13, gset_ne (by omega)]), (by rw [e13, gset_eq])⟩⟩
      · refine g_bipush (n := 37) X dX11_frost_35 (by decide +kernel) rfl ?_
        exact hq _ _ _ _ dX11_frost_37 ⟨by omega, I, C, gFr.rf, Or.inl ⟨by omega, fun k h0 h1 => rfl⟩⟩
    · refine g_bipush (n := 23) X dX11_frost_21 (by decide +kernel) rfl ?_
      exact hq _ _ _ _ dX11_frost_23 ⟨by omega, I, C, gFr.rf, Or.inl ⟨by omega, fun k h0 h1 => rfl⟩⟩
theorem dX11_heard_0 : decode cX11_heard 0 = .ok (.iload_n 1, 1) := dc_27 (by decide +kernel)
theorem dX11_heard_1 : decode cX11_heard 1 = .ok (.invokestatic 58, 3) := dc_184 0 58 (by decide +kernel)
theorem dX11_heard_4 : decode cX11_heard 4 = .ok (.ifCond .ne 5, 3) := dc_154 0 5 5 (by decide +kernel)
theorem dX11_heard_9 : decode cX11_heard 9 = .ok (.iload_n 2, 1) := dc_28 (by decide +kernel)
theorem dX11_heard_10 : decode cX11_heard 10 = .ok (.iconst 0, 1) := dc_3 (by decide +kernel)
theorem dX11_heard_11 : decode cX11_heard 11 = .ok (.sipush 300, 3) := dc_17 1 44 300 (by decide +kernel)
theorem dX11_heard_14 : decode cX11_heard 14 = .ok (.invokestatic 62, 3) := dc_184 0 62 (by decide +kernel)
theorem dX11_heard_17 : decode cX11_heard 17 = .ok (.ifCond .ne 6, 3) := dc_154 0 6 6 (by decide +kernel)
theorem dX11_heard_23 : decode cX11_heard 23 = .ok (.aload_n 0, 1) := dc_42 (by decide +kernel)
theorem dX11_heard_24 : decode cX11_heard 24 = .ok (.getfield 10, 3) := dc_180 0 10 (by decide +kernel)
theorem dX11_heard_27 : decode cX11_heard 27 = .ok (.iload_n 1, 1) := dc_27 (by decide +kernel)
theorem dX11_heard_28 : decode cX11_heard 28 = .ok (.iload_n 2, 1) := dc_28 (by decide +kernel)
theorem dX11_heard_29 : decode cX11_heard 29 = .ok (.invokevirtual 294, 3) := dc_182 1 38 (by decide +kernel)
theorem kw_4_171 : (Jvm.Cond.methodLink "ParishUnion" (294 : Nat) ({ cls := "ParishUnion$Union", name := "newsIn", desc := "(II)I" } : Jvm.MethodName)) ∈ gT := gT_of (tb_4 _ (List.mem_of_getElem? (i := 171) rfl)) rfl
theorem dX11_heard_32 : decode cX11_heard 32 = .ok (.ireturn, 1) := dc_172 (by decide +kernel)
theorem dX11_heard_20 : decode cX11_heard 20 = .ok (.bipush (-2), 2) := dc_16 254 (-2) (by decide +kernel)
theorem dX11_heard_22 : decode cX11_heard 22 = .ok (.ireturn, 1) := dc_172 (by decide +kernel)
theorem dX11_heard_7 : decode cX11_heard 7 = .ok (.iconst (-1), 1) := dc_2 (by decide +kernel)
theorem dX11_heard_8 : decode cX11_heard 8 = .ok (.ireturn, 1) := dc_172 (by decide +kernel)
abbrev R_X11_heard : Room := { frames := 5, cells := 0, slots := 0, locals := 144 }
set_option maxRecDepth 100000 in
set_option maxHeartbeats 4000000 in
theorem s_X11_heard {l : Launch} {n0 : Nat} {D : va_G} {cA : Nat → ClassId} {M : gM} (a : Int) (r_a : -2147483648 ≤ a ∧ a ≤ 2147483647) (b : Int) (r_b : -2147483648 ≤ b ∧ b ≤ 2147483647) {sz : Nat} (hsz : 206 ≤ sz) (I : gI sz M) (C : gC sz M)   : Met l yX11_heard (gWsOf yX11_heard cX11_heard 3 (Option.some Jvm.ClassFile.FieldType.int)) R_X11_heard (gPc n0 D cA [gA n0 0, gJ a, gJ b] M sz) (gQi n0 D cA sz (fun z M1 => M = M1 ∧ (-2147483648 ≤ z ∧ z ≤ 2147483647))) 0 0 (fun q => n0 ≤ q) := by
  refine gMetI [gA n0 0, gJ a, gJ b] (by decide) (Nat.le_of_ble_eq_true rfl) ⟨rfl, rfl⟩ ?_
  intro p e s m args below meth cd Q X hq
  have X : gCx p s m args meth cd n0 D cA "ParishUnion" cX11_heard 3 := X
  show G p l e R_X11_heard s m args below meth cd n0 D cA 3 Q 0 0 M sz 0 [(0, gA n0 0), (1, gJ a), (2, gJ b)] []
  refine g_iload_n (n := 1) X 1 dX11_heard_0 rfl rfl rfl ?_
  refine g_callSi (n := 4) (As := [gJ a]) (rest := []) (cs1 := 0) (ss1 := 0) X (s_X11_isParish a (by omega) hsz I C ) okX11_isParish kw_3_26 kw_3_27 ⟨rfl, rfl⟩ ⟨Nat.le_of_ble_eq_true rfl, Nat.le_of_ble_eq_true rfl⟩ rfl rfl (Nat.le_of_ble_eq_true rfl) ⟨Nat.le_of_ble_eq_true rfl, Nat.le_of_ble_eq_true rfl⟩ rfl rfl dX11_heard_1 rfl (fun v1 M2 P3 => ?_)
  obtain ⟨rfl, rv1, xv1⟩ := P3
  refine g_if_ne (n := 7) (tgt := 9) X dX11_heard_4 (by decide) (by omega) rfl (fun c4 => ?_) (fun c4 => ?_)
  · refine g_iload_n (n := 10) X 2 dX11_heard_9 rfl rfl rfl ?_
    refine g_iconst (n := 11) X dX11_heard_10 rfl ?_
    refine g_sipush (n := 14) X dX11_heard_11 (by decide +kernel) rfl ?_
    refine g_callSi (n := 17) (As := [gJ b, gJ 0, gJ 300]) (rest := []) (cs1 := 0) (ss1 := 0) X (s_X11_within b (by omega) 0 (by omega) 300 (by omega) hsz I C ) okX11_within kw_3_29 kw_3_30 ⟨rfl, rfl⟩ ⟨Nat.le_of_ble_eq_true rfl, Nat.le_of_ble_eq_true rfl⟩ rfl rfl (Nat.le_of_ble_eq_true rfl) ⟨Nat.le_of_ble_eq_true rfl, Nat.le_of_ble_eq_true rfl⟩ rfl rfl dX11_heard_14 rfl (fun v5 M6 P7 => ?_)
    obtain ⟨rfl, rv5, xv5⟩ := P7
    refine g_if_ne (n := 20) (tgt := 23) X dX11_heard_17 (by decide) (by omega) rfl (fun c8 => ?_) (fun c8 => ?_)
    · refine g_aload_n (n := 24) X 0 dX11_heard_23 rfl rfl rfl ?_
      refine gg_11_0 (n := 27) (z := 1) X (by decide) (gsz hsz (by decide)) lay_0 kw_2_231 dX11_heard_24 rfl (rf_0_0 I (gsz hsz (by decide))) (by decide) ?_
      refine g_iload_n (n := 28) X 1 dX11_heard_27 rfl rfl rfl ?_
      refine g_iload_n (n := 29) X 2 dX11_heard_28 rfl rfl rfl ?_
      refine g_callVi (n := 32) (As := [gJ a, gJ b]) (rest := []) (cs1 := 0) (ss1 := 0) X (s_X9_newsIn a (by omega) b (by omega) hsz I C ) okX9_newsIn kw_4_171 ⟨kw_4_172, kw_4_173⟩ ⟨rfl, rfl⟩ ⟨Nat.le_of_ble_eq_true rfl, Nat.le_of_ble_eq_true rfl⟩ rfl (by decide) (gsz hsz (by decide)) lay_1 rfl rfl (Nat.le_of_ble_eq_true rfl) ⟨Nat.le_of_ble_eq_true rfl, Nat.le_of_ble_eq_true rfl⟩ rfl rfl dX11_heard_29 rfl (fun v9 M10 P11 => ?_)
      obtain ⟨rfl, rv9⟩ := P11
      exact hq _ _ _ _ dX11_heard_32 ⟨rfl, by omega⟩
    · refine g_bipush (n := 22) X dX11_heard_20 (by decide +kernel) rfl ?_
      exact hq _ _ _ _ dX11_heard_22 ⟨rfl, by omega⟩
  · refine g_iconst (n := 8) X dX11_heard_7 rfl ?_
    exact hq _ _ _ _ dX11_heard_8 ⟨rfl, by omega⟩
theorem dX11_week_0 : decode cX11_week 0 = .ok (.iload_n 1, 1) := dc_27 (by decide +kernel)
theorem dX11_week_1 : decode cX11_week 1 = .ok (.iconst 1, 1) := dc_4 (by decide +kernel)
theorem dX11_week_2 : decode cX11_week 2 = .ok (.bipush 20, 2) := dc_16 20 20 (by decide +kernel)
theorem dX11_week_4 : decode cX11_week 4 = .ok (.invokestatic 62, 3) := dc_184 0 62 (by decide +kernel)
theorem dX11_week_7 : decode cX11_week 7 = .ok (.ifCond .eq 18, 3) := dc_153 0 18 18 (by decide +kernel)
theorem dX11_week_25 : decode cX11_week 25 = .ok (.bipush (-2), 2) := dc_16 254 (-2) (by decide +kernel)
theorem dX11_week_27 : decode cX11_week 27 = .ok (.ireturn, 1) := dc_172 (by decide +kernel)
theorem dX11_week_10 : decode cX11_week 10 = .ok (.aload_n 0, 1) := dc_42 (by decide +kernel)
theorem dX11_week_11 : decode cX11_week 11 = .ok (.getfield 10, 3) := dc_180 0 10 (by decide +kernel)
theorem dX11_week_14 : decode cX11_week 14 = .ok (.getfield 85, 3) := dc_180 0 85 (by decide +kernel)
theorem dX11_week_17 : decode cX11_week 17 = .ok (.iload_n 1, 1) := dc_27 (by decide +kernel)
theorem dX11_week_18 : decode cX11_week 18 = .ok (.iadd, 1) := dc_96 (by decide +kernel)
theorem dX11_week_19 : decode cX11_week 19 = .ok (.sipush 300, 3) := dc_17 1 44 300 (by decide +kernel)
theorem dX11_week_22 : decode cX11_week 22 = .ok (.if_icmp .le 6, 3) := dc_164 0 6 6 (by decide +kernel)
theorem dX11_week_28 : decode cX11_week 28 = .ok (.aload_n 0, 1) := dc_42 (by decide +kernel)
theorem dX11_week_29 : decode cX11_week 29 = .ok (.invokevirtual 231, 3) := dc_182 0 231 (by decide +kernel)
theorem dX11_week_32 : decode cX11_week 32 = .ok (.aload_n 0, 1) := dc_42 (by decide +kernel)
theorem dX11_week_33 : decode cX11_week 33 = .ok (.getfield 10, 3) := dc_180 0 10 (by decide +kernel)
theorem dX11_week_36 : decode cX11_week 36 = .ok (.iload_n 1, 1) := dc_27 (by decide +kernel)
theorem dX11_week_37 : decode cX11_week 37 = .ok (.invokevirtual 297, 3) := dc_182 1 41 (by decide +kernel)
theorem kw_4_185 : (Jvm.Cond.methodLink "ParishUnion" (297 : Nat) ({ cls := "ParishUnion$Union", name := "goBy", desc := "(I)V" } : Jvm.MethodName)) ∈ gT := gT_of (tb_4 _ (List.mem_of_getElem? (i := 185) rfl)) rfl
theorem kw_4_188 : (Jvm.Cond.code ({ cls := "ParishUnion$Union", name := "goBy", desc := "(I)V" } : Jvm.MethodName) prog_11_method_12_code (4 : Nat) (Option.none : Option Jvm.ClassFile.FieldType)) ∈ gT := gT_of (tb_4 _ (List.mem_of_getElem? (i := 188) rfl)) rfl
theorem okX9_goBy : gQok yX9_goBy cX9_goBy 4 (Option.none : Option Jvm.ClassFile.FieldType) 1 := ⟨kw_4_188, kw_1_2, by decide +kernel, by decide +kernel, by decide +kernel⟩
theorem kw_4_186 : (Jvm.Cond.instanceMethod ({ cls := "ParishUnion$Union", name := "goBy", desc := "(I)V" } : Jvm.MethodName)) ∈ gT := gT_of (tb_4 _ (List.mem_of_getElem? (i := 186) rfl)) rfl
theorem kw_4_187 : (Jvm.Cond.selects "ParishUnion$Union" ({ cls := "ParishUnion$Union", name := "goBy", desc := "(I)V" } : Jvm.MethodName) ({ cls := "ParishUnion$Union", name := "goBy", desc := "(I)V" } : Jvm.MethodName)) ∈ gT := gT_of (tb_4 _ (List.mem_of_getElem? (i := 187) rfl)) rfl
theorem dX11_week_40 : decode cX11_week 40 = .ok (.aload_n 0, 1) := dc_42 (by decide +kernel)
theorem dX11_week_41 : decode cX11_week 41 = .ok (.getfield 10, 3) := dc_180 0 10 (by decide +kernel)
theorem dX11_week_44 : decode cX11_week 44 = .ok (.getfield 85, 3) := dc_180 0 85 (by decide +kernel)
theorem dX11_week_47 : decode cX11_week 47 = .ok (.ireturn, 1) := dc_172 (by decide +kernel)
abbrev R_X11_week : Room := { frames := 7, cells := 0, slots := 0, locals := 192 }
set_option maxRecDepth 100000 in
set_option maxHeartbeats 4000000 in
theorem s_X11_week {l : Launch} {n0 : Nat} {D : va_G} {cA : Nat → ClassId} {M : gM} (a : Int) (r_a : -2147483648 ≤ a ∧ a ≤ 2147483647) {sz : Nat} (hsz : 206 ≤ sz) (I : gI sz M) (C : gC sz M)   : Met l yX11_week (gWsOf yX11_week cX11_week 2 (Option.some Jvm.ClassFile.FieldType.int)) R_X11_week (gPc n0 D cA [gA n0 0, gJ a] M sz) (gQi n0 D cA sz (fun z M1 => (-2 ≤ z ∧ z ≤ 300) ∧ gI sz M1 ∧ gC sz M1 ∧ gFr 50399312 M M1 ∧ ((¬ ((1 ≤ a ∧ a ≤ 20) ∧ M 1 15 + a ≤ 300) ∧ z = -2 ∧ M1 1 15 = M 1 15) ∨ (((1 ≤ a ∧ a ≤ 20) ∧ M 1 15 + a ≤ 300) ∧ z = M 1 15 + a ∧ M1 1 15 = z)))) 0 0 (fun q => n0 ≤ q) := by
  refine gMetI [gA n0 0, gJ a] (by decide) (Nat.le_of_ble_eq_true rfl) ⟨rfl, rfl⟩ ?_
  intro p e s m args below meth cd Q X hq
  have X : gCx p s m args meth cd n0 D cA "ParishUnion" cX11_week 2 := X
  show G p l e R_X11_week s m args below meth cd n0 D cA 2 Q 0 0 M sz 0 [(0, gA n0 0), (1, gJ a)] []
  obtain ⟨v1, hv1, rv1⟩ := gRd I (by decide) (gsz hsz (by decide)) rc_1_15.1
  refine g_iload_n (n := 1) X 1 dX11_week_0 rfl rfl rfl ?_
  refine g_iconst (n := 2) X dX11_week_1 rfl ?_
  refine g_bipush (n := 4) X dX11_week_2 (by decide +kernel) rfl ?_
  refine g_callSi (n := 7) (As := [gJ a, gJ 1, gJ 20]) (rest := []) (cs1 := 0) (ss1 := 0) X (s_X11_within a (by omega) 1 (by omega) 20 (by omega) hsz I C ) okX11_within kw_3_29 kw_3_30 ⟨rfl, rfl⟩ ⟨Nat.le_of_ble_eq_true rfl, Nat.le_of_ble_eq_true rfl⟩ rfl rfl (Nat.le_of_ble_eq_true rfl) ⟨Nat.le_of_ble_eq_true rfl, Nat.le_of_ble_eq_true rfl⟩ rfl rfl dX11_week_4 rfl (fun v2 M3 P4 => ?_)
  obtain ⟨rfl, rv2, xv2⟩ := P4
  refine g_if_eq (n := 10) (tgt := 25) X dX11_week_7 (by decide) (by omega) rfl (fun c5 => ?_) (fun c5 => ?_)
  · refine g_bipush (n := 27) X dX11_week_25 (by decide +kernel) rfl ?_
    exact hq _ _ _ _ dX11_week_27 ⟨by omega, I, C, gFr.rf, by have q0 := hv1; omega⟩
  · refine g_aload_n (n := 11) X 0 dX11_week_10 rfl rfl rfl ?_
    refine gg_11_0 (n := 14) (z := 1) X (by decide) (gsz hsz (by decide)) lay_0 kw_2_231 dX11_week_11 rfl (rf_0_0 I (gsz hsz (by decide))) (by decide) ?_
    refine gg_9_15 (n := 17) (z := v1) X (by decide) (gsz hsz (by decide)) lay_1 kw_2_139 dX11_week_14 rfl hv1 ?_
    refine g_iload_n (n := 18) X 1 dX11_week_17 rfl rfl rfl ?_
    refine g_iadd (n := 19) (z := v1 + a) X dX11_week_18 rfl rfl ?_
    refine g_sipush (n := 22) X dX11_week_19 (by decide +kernel) rfl ?_
    refine g_icmp_le (n := 25) (tgt := 28) X dX11_week_22 (by decide) (by omega) (by omega) rfl (fun c6 => ?_) (fun c6 => ?_)
    · refine g_aload_n (n := 29) X 0 dX11_week_28 rfl rfl rfl ?_
      refine g_callVv (n := 32) (As := []) (rest := []) (cs1 := 0) (ss1 := 0) X (s_X11_findHomes  hsz I C ) okX11_findHomes kw_4_97 ⟨kw_4_99, kw_0_17⟩ ⟨rfl, rfl⟩ ⟨Nat.le_of_ble_eq_true rfl, Nat.le_of_ble_eq_true rfl⟩ rfl (by decide) (gsz hsz (by decide)) lay_0 rfl rfl (Nat.le_of_ble_eq_true rfl) ⟨Nat.le_of_ble_eq_true rfl, Nat.le_of_ble_eq_true rfl⟩ rfl rfl dX11_week_29 rfl (fun M8 P9 => ?_)
      obtain ⟨IM8, CM8, FM8⟩ := P9
      refine g_aload_n (n := 33) X 0 dX11_week_32 rfl rfl rfl ?_
      refine gg_11_0 (n := 36) (z := 1) X (by decide) (gsz hsz (by decide)) lay_0 kw_2_231 dX11_week_33 rfl (rf_0_0 IM8 (gsz hsz (by decide))) (by decide) ?_
      refine g_iload_n (n := 37) X 1 dX11_week_36 rfl rfl rfl ?_
      have tM8_15 : M8 1 15 = v1 := ((gFr.at FM8 rc_1_15.2.2 rfl).trans hv1)
      refine g_callVv (n := 40) (As := [gJ a]) (rest := []) (cs1 := 0) (ss1 := 0) X (s_X9_goBy a (by omega) hsz IM8 CM8 ) okX9_goBy kw_4_185 ⟨kw_4_186, kw_4_187⟩ ⟨rfl, rfl⟩ ⟨Nat.le_of_ble_eq_true rfl, Nat.le_of_ble_eq_true rfl⟩ rfl (by decide) (gsz hsz (by decide)) lay_1 rfl rfl (Nat.le_of_ble_eq_true rfl) ⟨Nat.le_of_ble_eq_true rfl, Nat.le_of_ble_eq_true rfl⟩ rfl rfl dX11_week_37 rfl (fun M11 P12 => ?_)
      obtain ⟨IM11, CM11, FM11, xM11⟩ := P12
      refine g_aload_n (n := 41) X 0 dX11_week_40 rfl rfl rfl ?_
      refine gg_11_0 (n := 44) (z := 1) X (by decide) (gsz hsz (by decide)) lay_0 kw_2_231 dX11_week_41 rfl (rf_0_0 IM11 (gsz hsz (by decide))) (by decide) ?_
      obtain ⟨v13, hv13, rv13⟩ := gRd IM11 (by decide) (gsz hsz (by decide)) rc_1_15.1
      refine gg_9_15 (n := 47) (z := v13) X (by decide) (gsz hsz (by decide)) lay_1 kw_2_139 dX11_week_44 rfl hv13 ?_
      exact hq _ _ _ _ dX11_week_47 ⟨by omega, IM11, CM11, (gFr.c (gFr.c gFr.rf FM8 rfl) FM11 rfl), by have q0 := hv13; omega⟩
    · refine g_bipush (n := 27) X dX11_week_25 (by decide +kernel) rfl ?_
      exact hq _ _ _ _ dX11_week_27 ⟨by omega, I, C, gFr.rf, by have q0 := hv1; omega⟩
theorem dX11_gone_0 : decode cX11_gone 0 = .ok (.aload_n 0, 1) := dc_42 (by decide +kernel)
theorem dX11_gone_1 : decode cX11_gone 1 = .ok (.iload_n 1, 1) := dc_27 (by decide +kernel)
theorem dX11_gone_2 : decode cX11_gone 2 = .ok (.invokevirtual 301, 3) := dc_182 1 45 (by decide +kernel)
theorem kw_5_11 : (Jvm.Cond.methodLink "ParishUnion" (301 : Nat) ({ cls := "ParishUnion", name := "isGone", desc := "(I)Z" } : Jvm.MethodName)) ∈ gT := gT_of (tb_5 _ (List.mem_of_getElem? (i := 11) rfl)) rfl
theorem kw_5_14 : (Jvm.Cond.code ({ cls := "ParishUnion", name := "isGone", desc := "(I)Z" } : Jvm.MethodName) prog_1_method_55_code (2 : Nat) (Option.some Jvm.ClassFile.FieldType.boolean)) ∈ gT := gT_of (tb_5 _ (List.mem_of_getElem? (i := 14) rfl)) rfl
theorem okX11_isGone : gQok yX11_isGone cX11_isGone 2 (Option.some Jvm.ClassFile.FieldType.boolean) 1 := ⟨kw_5_14, kw_1_1, by decide +kernel, by decide +kernel, by decide +kernel⟩
theorem kw_5_13 : (Jvm.Cond.instanceMethod ({ cls := "ParishUnion", name := "isGone", desc := "(I)Z" } : Jvm.MethodName)) ∈ gT := gT_of (tb_5 _ (List.mem_of_getElem? (i := 13) rfl)) rfl
theorem kw_0_28 : (Jvm.Cond.selects "ParishUnion" ({ cls := "ParishUnion", name := "isGone", desc := "(I)Z" } : Jvm.MethodName) ({ cls := "ParishUnion", name := "isGone", desc := "(I)Z" } : Jvm.MethodName)) ∈ gT := gT_of (tb_0 _ (List.mem_of_getElem? (i := 28) rfl)) rfl
theorem dX11_gone_5 : decode cX11_gone 5 = .ok (.ifCond .eq 13, 3) := dc_153 0 13 13 (by decide +kernel)
theorem dX11_gone_18 : decode cX11_gone 18 = .ok (.iconst (-1), 1) := dc_2 (by decide +kernel)
theorem dX11_gone_19 : decode cX11_gone 19 = .ok (.ireturn, 1) := dc_172 (by decide +kernel)
theorem dX11_gone_8 : decode cX11_gone 8 = .ok (.iload_n 2, 1) := dc_28 (by decide +kernel)
theorem dX11_gone_9 : decode cX11_gone 9 = .ok (.iconst 0, 1) := dc_3 (by decide +kernel)
theorem dX11_gone_10 : decode cX11_gone 10 = .ok (.bipush 6, 2) := dc_16 6 6 (by decide +kernel)
theorem dX11_gone_12 : decode cX11_gone 12 = .ok (.invokestatic 62, 3) := dc_184 0 62 (by decide +kernel)
theorem dX11_gone_15 : decode cX11_gone 15 = .ok (.ifCond .ne 5, 3) := dc_154 0 5 5 (by decide +kernel)
theorem dX11_gone_20 : decode cX11_gone 20 = .ok (.iload_n 2, 1) := dc_28 (by decide +kernel)
theorem dX11_gone_21 : decode cX11_gone 21 = .ok (.bipush 6, 2) := dc_16 6 6 (by decide +kernel)
theorem dX11_gone_23 : decode cX11_gone 23 = .ok (.if_icmp .ne 14, 3) := dc_160 0 14 14 (by decide +kernel)
theorem dX11_gone_37 : decode cX11_gone 37 = .ok (.aload_n 0, 1) := dc_42 (by decide +kernel)
theorem dX11_gone_38 : decode cX11_gone 38 = .ok (.getfield 10, 3) := dc_180 0 10 (by decide +kernel)
theorem dX11_gone_41 : decode cX11_gone 41 = .ok (.getfield 307, 3) := dc_180 1 51 (by decide +kernel)
theorem dX11_gone_44 : decode cX11_gone 44 = .ok (.iload_n 1, 1) := dc_27 (by decide +kernel)
theorem dX11_gone_45 : decode cX11_gone 45 = .ok (.iload_n 2, 1) := dc_28 (by decide +kernel)
theorem dX11_gone_46 : decode cX11_gone 46 = .ok (.invokevirtual 311, 3) := dc_182 1 55 (by decide +kernel)
theorem dX11_gone_49 : decode cX11_gone 49 = .ok (.ireturn, 1) := dc_172 (by decide +kernel)
theorem dX11_gone_26 : decode cX11_gone 26 = .ok (.aload_n 0, 1) := dc_42 (by decide +kernel)
theorem dX11_gone_27 : decode cX11_gone 27 = .ok (.getfield 10, 3) := dc_180 0 10 (by decide +kernel)
theorem dX11_gone_30 : decode cX11_gone 30 = .ok (.iload_n 1, 1) := dc_27 (by decide +kernel)
theorem dX11_gone_31 : decode cX11_gone 31 = .ok (.invokevirtual 304, 3) := dc_182 1 48 (by decide +kernel)
theorem dX11_gone_34 : decode cX11_gone 34 = .ok (.goto 15, 3) := dc_167 0 15 15 (by decide +kernel)
abbrev R_X11_gone : Room := { frames := 2, cells := 0, slots := 0, locals := 43 }
set_option maxRecDepth 100000 in
set_option maxHeartbeats 4000000 in
theorem s_X11_gone {l : Launch} {n0 : Nat} {D : va_G} {cA : Nat → ClassId} {M : gM} (a : Int) (r_a : -2147483648 ≤ a ∧ a ≤ 2147483647) (b : Int) (r_b : -2147483648 ≤ b ∧ b ≤ 2147483647) {sz : Nat} (hsz : 206 ≤ sz) (I : gI sz M) (C : gC sz M)   : Met l yX11_gone (gWsOf yX11_gone cX11_gone 3 (Option.some Jvm.ClassFile.FieldType.int)) R_X11_gone (gPc n0 D cA [gA n0 0, gJ a, gJ b] M sz) (gQi n0 D cA sz (fun z M1 => M = M1 ∧ (-2147483648 ≤ z ∧ z ≤ 2147483647))) 0 0 (fun q => n0 ≤ q) := by
  refine gMetI [gA n0 0, gJ a, gJ b] (by decide) (Nat.le_of_ble_eq_true rfl) ⟨rfl, rfl⟩ ?_
  intro p e s m args below meth cd Q X hq
  have X : gCx p s m args meth cd n0 D cA "ParishUnion" cX11_gone 3 := X
  show G p l e R_X11_gone s m args below meth cd n0 D cA 3 Q 0 0 M sz 0 [(0, gA n0 0), (1, gJ a), (2, gJ b)] []
  refine g_aload_n (n := 1) X 0 dX11_gone_0 rfl rfl rfl ?_
  refine g_iload_n (n := 2) X 1 dX11_gone_1 rfl rfl rfl ?_
  refine g_callVi (n := 5) (As := [gJ a]) (rest := []) (cs1 := 0) (ss1 := 0) X (s_X11_isGone a (by omega) hsz I C ) okX11_isGone kw_5_11 ⟨kw_5_13, kw_0_28⟩ ⟨rfl, rfl⟩ ⟨Nat.le_of_ble_eq_true rfl, Nat.le_of_ble_eq_true rfl⟩ rfl (by decide) (gsz hsz (by decide)) lay_0 rfl rfl (Nat.le_of_ble_eq_true rfl) ⟨Nat.le_of_ble_eq_true rfl, Nat.le_of_ble_eq_true rfl⟩ rfl rfl dX11_gone_2 rfl (fun v1 M2 P3 => ?_)
  obtain ⟨rfl, rv1, xv1⟩ := P3
  refine g_if_eq (n := 8) (tgt := 18) X dX11_gone_5 (by decide) (by omega) rfl (fun c4 => ?_) (fun c4 => ?_)
  · refine g_iconst (n := 19) X dX11_gone_18 rfl ?_
    exact hq _ _ _ _ dX11_gone_19 ⟨rfl, by omega⟩
  · refine g_iload_n (n := 9) X 2 dX11_gone_8 rfl rfl rfl ?_
    refine g_iconst (n := 10) X dX11_gone_9 rfl ?_
    refine g_bipush (n := 12) X dX11_gone_10 (by decide +kernel) rfl ?_
    refine g_callSi (n := 15) (As := [gJ b, gJ 0, gJ 6]) (rest := []) (cs1 := 0) (ss1 := 0) X (s_X11_within b (by omega) 0 (by omega) 6 (by omega) hsz I C ) okX11_within kw_3_29 kw_3_30 ⟨rfl, rfl⟩ ⟨Nat.le_of_ble_eq_true rfl, Nat.le_of_ble_eq_true rfl⟩ rfl rfl (Nat.le_of_ble_eq_true rfl) ⟨Nat.le_of_ble_eq_true rfl, Nat.le_of_ble_eq_true rfl⟩ rfl rfl dX11_gone_12 rfl (fun v5 M6 P7 => ?_)
    obtain ⟨rfl, rv5, xv5⟩ := P7
    refine g_if_ne (n := 18) (tgt := 20) X dX11_gone_15 (by decide) (by omega) rfl (fun c8 => ?_) (fun c8 => ?_)
    · refine g_iload_n (n := 21) X 2 dX11_gone_20 rfl rfl rfl ?_
      refine g_bipush (n := 23) X dX11_gone_21 (by decide +kernel) rfl ?_
      refine g_icmp_ne (n := 26) (tgt := 37) X dX11_gone_23 (by decide) (by omega) (by omega) rfl (fun c9 => ?_) (fun c9 => ?_)
      · refine g_aload_n (n := 38) X 0 dX11_gone_37 rfl rfl rfl ?_
        refine gg_11_0 (n := 41) (z := 1) X (by decide) (gsz hsz (by decide)) lay_0 kw_2_231 dX11_gone_38 rfl (rf_0_0 I (gsz hsz (by decide))) (by decide) ?_
        refine gg_9_7 (n := 44) (z := 23) X (by decide) (gsz hsz (by decide)) lay_1 kw_2_121 dX11_gone_41 rfl (rf_1_7 I (gsz hsz (by decide))) (by decide) ?_
        refine g_iload_n (n := 45) X 1 dX11_gone_44 rfl rfl rfl ?_
        refine g_iload_n (n := 46) X 2 dX11_gone_45 rfl rfl rfl ?_
        refine g_callVi (n := 49) (As := [gJ a, gJ b]) (rest := []) (cs1 := 0) (ss1 := 0) X (s_X5_sum a (by omega) b (by omega) hsz I C ) okX5_sum kw_5_19 ⟨kw_4_178, kw_4_179⟩ ⟨rfl, rfl⟩ ⟨Nat.le_of_ble_eq_true rfl, Nat.le_of_ble_eq_true rfl⟩ rfl (by decide) (gsz hsz (by decide)) lay_23 rfl rfl (Nat.le_of_ble_eq_true rfl) ⟨Nat.le_of_ble_eq_true rfl, Nat.le_of_ble_eq_true rfl⟩ rfl rfl dX11_gone_46 rfl (fun v10 M11 P12 => ?_)
        obtain ⟨rfl, rv10⟩ := P12
        exact hq _ _ _ _ dX11_gone_49 ⟨rfl, by omega⟩
      · refine g_aload_n (n := 27) X 0 dX11_gone_26 rfl rfl rfl ?_
        refine gg_11_0 (n := 30) (z := 1) X (by decide) (gsz hsz (by decide)) lay_0 kw_2_231 dX11_gone_27 rfl (rf_0_0 I (gsz hsz (by decide))) (by decide) ?_
        refine g_iload_n (n := 31) X 1 dX11_gone_30 rfl rfl rfl ?_
        refine g_callVi (n := 34) (As := [gJ a]) (rest := []) (cs1 := 0) (ss1 := 0) X (s_X9_costOf a (by omega) hsz I C ) okX9_costOf kw_5_15 ⟨kw_5_16, kw_5_17⟩ ⟨rfl, rfl⟩ ⟨Nat.le_of_ble_eq_true rfl, Nat.le_of_ble_eq_true rfl⟩ rfl (by decide) (gsz hsz (by decide)) lay_1 rfl rfl (Nat.le_of_ble_eq_true rfl) ⟨Nat.le_of_ble_eq_true rfl, Nat.le_of_ble_eq_true rfl⟩ rfl rfl dX11_gone_31 rfl (fun v13 M14 P15 => ?_)
        obtain ⟨rfl, rv13⟩ := P15
        refine g_goto (tgt := 49) X dX11_gone_34 (by decide) ?_
        exact hq _ _ _ _ dX11_gone_49 ⟨rfl, by omega⟩
    · refine g_iconst (n := 19) X dX11_gone_18 rfl ?_
      exact hq _ _ _ _ dX11_gone_19 ⟨rfl, by omega⟩
theorem dX11_was_0 : decode cX11_was 0 = .ok (.aload_n 0, 1) := dc_42 (by decide +kernel)
theorem dX11_was_1 : decode cX11_was 1 = .ok (.iload_n 1, 1) := dc_27 (by decide +kernel)
theorem dX11_was_2 : decode cX11_was 2 = .ok (.invokevirtual 82, 3) := dc_182 0 82 (by decide +kernel)
theorem dX11_was_5 : decode cX11_was 5 = .ok (.ifCond .eq 20, 3) := dc_153 0 20 20 (by decide +kernel)
theorem dX11_was_25 : decode cX11_was 25 = .ok (.iconst (-1), 1) := dc_2 (by decide +kernel)
theorem dX11_was_26 : decode cX11_was 26 = .ok (.ireturn, 1) := dc_172 (by decide +kernel)
theorem dX11_was_8 : decode cX11_was 8 = .ok (.aload_n 0, 1) := dc_42 (by decide +kernel)
theorem dX11_was_9 : decode cX11_was 9 = .ok (.iload_n 2, 1) := dc_28 (by decide +kernel)
theorem dX11_was_10 : decode cX11_was 10 = .ok (.invokevirtual 301, 3) := dc_182 1 45 (by decide +kernel)
theorem dX11_was_13 : decode cX11_was 13 = .ok (.ifCond .eq 12, 3) := dc_153 0 12 12 (by decide +kernel)
theorem dX11_was_16 : decode cX11_was 16 = .ok (.iload_n 3, 1) := dc_29 (by decide +kernel)
theorem dX11_was_17 : decode cX11_was 17 = .ok (.iconst 0, 1) := dc_3 (by decide +kernel)
theorem dX11_was_18 : decode cX11_was 18 = .ok (.iconst 3, 1) := dc_6 (by decide +kernel)
theorem dX11_was_19 : decode cX11_was 19 = .ok (.invokestatic 62, 3) := dc_184 0 62 (by decide +kernel)
theorem dX11_was_22 : decode cX11_was 22 = .ok (.ifCond .ne 5, 3) := dc_154 0 5 5 (by decide +kernel)
theorem dX11_was_27 : decode cX11_was 27 = .ok (.aload_n 0, 1) := dc_42 (by decide +kernel)
theorem dX11_was_28 : decode cX11_was 28 = .ok (.getfield 10, 3) := dc_180 0 10 (by decide +kernel)
theorem dX11_was_31 : decode cX11_was 31 = .ok (.getfield 307, 3) := dc_180 1 51 (by decide +kernel)
theorem dX11_was_34 : decode cX11_was 34 = .ok (.astore 4, 2) := dc_58 4 (by decide +kernel)
theorem dX11_was_36 : decode cX11_was 36 = .ok (.aload 4, 2) := dc_25 4 (by decide +kernel)
theorem dX11_was_38 : decode cX11_was 38 = .ok (.iload_n 2, 1) := dc_28 (by decide +kernel)
theorem dX11_was_39 : decode cX11_was 39 = .ok (.iload_n 1, 1) := dc_27 (by decide +kernel)
theorem dX11_was_40 : decode cX11_was 40 = .ok (.invokevirtual 316, 3) := dc_182 1 60 (by decide +kernel)
theorem kw_5_24 : (Jvm.Cond.methodLink "ParishUnion" (316 : Nat) ({ cls := "ParishUnion$Past", name := "wasThere", desc := "(II)Z" } : Jvm.MethodName)) ∈ gT := gT_of (tb_5 _ (List.mem_of_getElem? (i := 24) rfl)) rfl
theorem dX11_was_43 : decode cX11_was 43 = .ok (.ifCond .ne 5, 3) := dc_154 0 5 5 (by decide +kernel)
theorem dX11_was_48 : decode cX11_was 48 = .ok (.iload_n 3, 1) := dc_29 (by decide +kernel)
theorem dX11_was_49 : decode cX11_was 49 = .ok (.tableswitch 51 0 2 #[27, 35, 43], 27) := by decide +kernel
theorem dX11_was_76 : decode cX11_was 76 = .ok (.aload 4, 2) := dc_25 4 (by decide +kernel)
theorem dX11_was_78 : decode cX11_was 78 = .ok (.iload_n 2, 1) := dc_28 (by decide +kernel)
theorem dX11_was_79 : decode cX11_was 79 = .ok (.iload_n 1, 1) := dc_27 (by decide +kernel)
theorem dX11_was_80 : decode cX11_was 80 = .ok (.invokevirtual 319, 3) := dc_182 1 63 (by decide +kernel)
theorem kw_5_32 : (Jvm.Cond.methodLink "ParishUnion" (319 : Nat) ({ cls := "ParishUnion$Past", name := "placeOf", desc := "(II)I" } : Jvm.MethodName)) ∈ gT := gT_of (tb_5 _ (List.mem_of_getElem? (i := 32) rfl)) rfl
theorem kw_5_35 : (Jvm.Cond.code ({ cls := "ParishUnion$Past", name := "placeOf", desc := "(II)I" } : Jvm.MethodName) prog_7_method_10_code (3 : Nat) (Option.some Jvm.ClassFile.FieldType.int)) ∈ gT := gT_of (tb_5 _ (List.mem_of_getElem? (i := 35) rfl)) rfl
theorem okX5_placeOf : gQok yX5_placeOf cX5_placeOf 3 (Option.some Jvm.ClassFile.FieldType.int) 2 := ⟨kw_5_35, kw_1_6, by decide +kernel, by decide +kernel, by decide +kernel⟩
theorem kw_5_33 : (Jvm.Cond.instanceMethod ({ cls := "ParishUnion$Past", name := "placeOf", desc := "(II)I" } : Jvm.MethodName)) ∈ gT := gT_of (tb_5 _ (List.mem_of_getElem? (i := 33) rfl)) rfl
theorem kw_5_34 : (Jvm.Cond.selects "ParishUnion$Past" ({ cls := "ParishUnion$Past", name := "placeOf", desc := "(II)I" } : Jvm.MethodName) ({ cls := "ParishUnion$Past", name := "placeOf", desc := "(II)I" } : Jvm.MethodName)) ∈ gT := gT_of (tb_5 _ (List.mem_of_getElem? (i := 34) rfl)) rfl
theorem dX11_was_83 : decode cX11_was 83 = .ok (.ireturn, 1) := dc_172 (by decide +kernel)
theorem dX11_was_84 : decode cX11_was 84 = .ok (.aload 4, 2) := dc_25 4 (by decide +kernel)
theorem dX11_was_86 : decode cX11_was 86 = .ok (.iload_n 2, 1) := dc_28 (by decide +kernel)
theorem dX11_was_87 : decode cX11_was 87 = .ok (.iload_n 1, 1) := dc_27 (by decide +kernel)
theorem dX11_was_88 : decode cX11_was 88 = .ok (.invokevirtual 322, 3) := dc_182 1 66 (by decide +kernel)
theorem kw_5_37 : (Jvm.Cond.methodLink "ParishUnion" (322 : Nat) ({ cls := "ParishUnion$Past", name := "eatenBy", desc := "(II)I" } : Jvm.MethodName)) ∈ gT := gT_of (tb_5 _ (List.mem_of_getElem? (i := 37) rfl)) rfl
theorem dX11_was_91 : decode cX11_was 91 = .ok (.ireturn, 1) := dc_172 (by decide +kernel)
theorem dX11_was_92 : decode cX11_was 92 = .ok (.aload 4, 2) := dc_25 4 (by decide +kernel)
theorem dX11_was_94 : decode cX11_was 94 = .ok (.iload_n 2, 1) := dc_28 (by decide +kernel)
theorem dX11_was_95 : decode cX11_was 95 = .ok (.iload_n 1, 1) := dc_27 (by decide +kernel)
theorem dX11_was_96 : decode cX11_was 96 = .ok (.invokevirtual 325, 3) := dc_182 1 69 (by decide +kernel)
theorem kw_5_43 : (Jvm.Cond.methodLink "ParishUnion" (325 : Nat) ({ cls := "ParishUnion$Past", name := "givenTo", desc := "(II)I" } : Jvm.MethodName)) ∈ gT := gT_of (tb_5 _ (List.mem_of_getElem? (i := 43) rfl)) rfl
theorem dX11_was_99 : decode cX11_was 99 = .ok (.ireturn, 1) := dc_172 (by decide +kernel)
theorem dX11_was_100 : decode cX11_was 100 = .ok (.aload 4, 2) := dc_25 4 (by decide +kernel)
theorem dX11_was_102 : decode cX11_was 102 = .ok (.iload_n 2, 1) := dc_28 (by decide +kernel)
theorem dX11_was_103 : decode cX11_was 103 = .ok (.iload_n 1, 1) := dc_27 (by decide +kernel)
theorem dX11_was_104 : decode cX11_was 104 = .ok (.invokevirtual 328, 3) := dc_182 1 72 (by decide +kernel)
theorem kw_5_47 : (Jvm.Cond.methodLink "ParishUnion" (328 : Nat) ({ cls := "ParishUnion$Past", name := "hasAsked", desc := "(II)Z" } : Jvm.MethodName)) ∈ gT := gT_of (tb_5 _ (List.mem_of_getElem? (i := 47) rfl)) rfl
theorem kw_5_50 : (Jvm.Cond.code ({ cls := "ParishUnion$Past", name := "hasAsked", desc := "(II)Z" } : Jvm.MethodName) prog_7_method_11_code (3 : Nat) (Option.some Jvm.ClassFile.FieldType.boolean)) ∈ gT := gT_of (tb_5 _ (List.mem_of_getElem? (i := 50) rfl)) rfl
theorem okX5_hasAsked : gQok yX5_hasAsked cX5_hasAsked 3 (Option.some Jvm.ClassFile.FieldType.boolean) 2 := ⟨kw_5_50, kw_1_6, by decide +kernel, by decide +kernel, by decide +kernel⟩
theorem kw_5_48 : (Jvm.Cond.instanceMethod ({ cls := "ParishUnion$Past", name := "hasAsked", desc := "(II)Z" } : Jvm.MethodName)) ∈ gT := gT_of (tb_5 _ (List.mem_of_getElem? (i := 48) rfl)) rfl
theorem kw_5_49 : (Jvm.Cond.selects "ParishUnion$Past" ({ cls := "ParishUnion$Past", name := "hasAsked", desc := "(II)Z" } : Jvm.MethodName) ({ cls := "ParishUnion$Past", name := "hasAsked", desc := "(II)Z" } : Jvm.MethodName)) ∈ gT := gT_of (tb_5 _ (List.mem_of_getElem? (i := 49) rfl)) rfl
theorem dX11_was_107 : decode cX11_was 107 = .ok (.ifCond .eq 7, 3) := dc_153 0 7 7 (by decide +kernel)
theorem dX11_was_114 : decode cX11_was 114 = .ok (.iconst 0, 1) := dc_3 (by decide +kernel)
theorem dX11_was_115 : decode cX11_was 115 = .ok (.ireturn, 1) := dc_172 (by decide +kernel)
theorem dX11_was_110 : decode cX11_was 110 = .ok (.iconst 1, 1) := dc_4 (by decide +kernel)
theorem dX11_was_111 : decode cX11_was 111 = .ok (.goto 4, 3) := dc_167 0 4 4 (by decide +kernel)
theorem dX11_was_46 : decode cX11_was 46 = .ok (.iconst (-1), 1) := dc_2 (by decide +kernel)
theorem dX11_was_47 : decode cX11_was 47 = .ok (.ireturn, 1) := dc_172 (by decide +kernel)
abbrev R_X11_was : Room := { frames := 3, cells := 0, slots := 0, locals := 66 }
set_option maxRecDepth 100000 in
set_option maxHeartbeats 4000000 in
theorem s_X11_was {l : Launch} {n0 : Nat} {D : va_G} {cA : Nat → ClassId} {M : gM} (a : Int) (r_a : -2147483648 ≤ a ∧ a ≤ 2147483647) (b : Int) (r_b : -2147483648 ≤ b ∧ b ≤ 2147483647) (c : Int) (r_c : -2147483648 ≤ c ∧ c ≤ 2147483647) {sz : Nat} (hsz : 206 ≤ sz) (I : gI sz M) (C : gC sz M)   : Met l yX11_was (gWsOf yX11_was cX11_was 5 (Option.some Jvm.ClassFile.FieldType.int)) R_X11_was (gPc n0 D cA [gA n0 0, gJ a, gJ b, gJ c] M sz) (gQi n0 D cA sz (fun z M1 => M = M1 ∧ (-1 ≤ z ∧ z ≤ 65535))) 0 0 (fun q => n0 ≤ q) := by
  refine gMetI [gA n0 0, gJ a, gJ b, gJ c] (by decide) (Nat.le_of_ble_eq_true rfl) ⟨rfl, rfl⟩ ?_
  intro p e s m args below meth cd Q X hq
  have X : gCx p s m args meth cd n0 D cA "ParishUnion" cX11_was 5 := X
  show G p l e R_X11_was s m args below meth cd n0 D cA 5 Q 0 0 M sz 0 [(0, gA n0 0), (1, gJ a), (2, gJ b), (3, gJ c)] []
  refine g_aload_n (n := 1) X 0 dX11_was_0 rfl rfl rfl ?_
  refine g_iload_n (n := 2) X 1 dX11_was_1 rfl rfl rfl ?_
  refine g_callVi (n := 5) (As := [gJ a]) (rest := []) (cs1 := 0) (ss1 := 0) X (s_X11_isPerson a (by omega) hsz I C ) okX11_isPerson kw_3_56 ⟨kw_3_58, kw_0_0⟩ ⟨rfl, rfl⟩ ⟨Nat.le_of_ble_eq_true rfl, Nat.le_of_ble_eq_true rfl⟩ rfl (by decide) (gsz hsz (by decide)) lay_0 rfl rfl (Nat.le_of_ble_eq_true rfl) ⟨Nat.le_of_ble_eq_true rfl, Nat.le_of_ble_eq_true rfl⟩ rfl rfl dX11_was_2 rfl (fun v1 M2 P3 => ?_)
  obtain ⟨rfl, rv1, xv1⟩ := P3
  refine g_if_eq (n := 8) (tgt := 25) X dX11_was_5 (by decide) (by omega) rfl (fun c4 => ?_) (fun c4 => ?_)
  · refine g_iconst (n := 26) X dX11_was_25 rfl ?_
    exact hq _ _ _ _ dX11_was_26 ⟨rfl, by omega⟩
  · refine g_aload_n (n := 9) X 0 dX11_was_8 rfl rfl rfl ?_
    refine g_iload_n (n := 10) X 2 dX11_was_9 rfl rfl rfl ?_
    refine g_callVi (n := 13) (As := [gJ b]) (rest := []) (cs1 := 0) (ss1 := 0) X (s_X11_isGone b (by omega) hsz I C ) okX11_isGone kw_5_11 ⟨kw_5_13, kw_0_28⟩ ⟨rfl, rfl⟩ ⟨Nat.le_of_ble_eq_true rfl, Nat.le_of_ble_eq_true rfl⟩ rfl (by decide) (gsz hsz (by decide)) lay_0 rfl rfl (Nat.le_of_ble_eq_true rfl) ⟨Nat.le_of_ble_eq_true rfl, Nat.le_of_ble_eq_true rfl⟩ rfl rfl dX11_was_10 rfl (fun v5 M6 P7 => ?_)
    obtain ⟨rfl, rv5, xv5⟩ := P7
    refine g_if_eq (n := 16) (tgt := 25) X dX11_was_13 (by decide) (by omega) rfl (fun c8 => ?_) (fun c8 => ?_)
    · refine g_iconst (n := 26) X dX11_was_25 rfl ?_
      exact hq _ _ _ _ dX11_was_26 ⟨rfl, by omega⟩
    · refine g_iload_n (n := 17) X 3 dX11_was_16 rfl rfl rfl ?_
      refine g_iconst (n := 18) X dX11_was_17 rfl ?_
      refine g_iconst (n := 19) X dX11_was_18 rfl ?_
      refine g_callSi (n := 22) (As := [gJ c, gJ 0, gJ 3]) (rest := []) (cs1 := 0) (ss1 := 0) X (s_X11_within c (by omega) 0 (by omega) 3 (by omega) hsz I C ) okX11_within kw_3_29 kw_3_30 ⟨rfl, rfl⟩ ⟨Nat.le_of_ble_eq_true rfl, Nat.le_of_ble_eq_true rfl⟩ rfl rfl (Nat.le_of_ble_eq_true rfl) ⟨Nat.le_of_ble_eq_true rfl, Nat.le_of_ble_eq_true rfl⟩ rfl rfl dX11_was_19 rfl (fun v9 M10 P11 => ?_)
      obtain ⟨rfl, rv9, xv9⟩ := P11
      refine g_if_ne (n := 25) (tgt := 27) X dX11_was_22 (by decide) (by omega) rfl (fun c12 => ?_) (fun c12 => ?_)
      · refine g_aload_n (n := 28) X 0 dX11_was_27 rfl rfl rfl ?_
        refine gg_11_0 (n := 31) (z := 1) X (by decide) (gsz hsz (by decide)) lay_0 kw_2_231 dX11_was_28 rfl (rf_0_0 I (gsz hsz (by decide))) (by decide) ?_
        refine gg_9_7 (n := 34) (z := 23) X (by decide) (gsz hsz (by decide)) lay_1 kw_2_121 dX11_was_31 rfl (rf_1_7 I (gsz hsz (by decide))) (by decide) ?_
        refine g_astore (n := 36) (L' := [(4, gA n0 23), (0, gA n0 0), (1, gJ a), (2, gJ b), (3, gJ c)]) X dX11_was_34 (by decide) rfl rfl ?_
        refine g_aload (n := 38) X 0 dX11_was_36 rfl rfl ?_
        refine g_iload_n (n := 39) X 3 dX11_was_38 rfl rfl rfl ?_
        refine g_iload_n (n := 40) X 2 dX11_was_39 rfl rfl rfl ?_
        refine g_callVi (n := 43) (As := [gJ b, gJ a]) (rest := []) (cs1 := 0) (ss1 := 0) X (s_X5_wasThere b (by omega) a (by omega) hsz I C ) okX5_wasThere kw_5_24 ⟨kw_5_25, kw_5_26⟩ ⟨rfl, rfl⟩ ⟨Nat.le_of_ble_eq_true rfl, Nat.le_of_ble_eq_true rfl⟩ rfl (by decide) (gsz hsz (by decide)) lay_23 rfl rfl (Nat.le_of_ble_eq_true rfl) ⟨Nat.le_of_ble_eq_true rfl, Nat.le_of_ble_eq_true rfl⟩ rfl rfl dX11_was_40 rfl (fun v13 M14 P15 => ?_)
        obtain ⟨rfl, rv13⟩ := P15
        refine g_if_ne (n := 46) (tgt := 48) X dX11_was_43 (by decide) (by omega) rfl (fun c16 => ?_) (fun c16 => ?_)
        · refine g_iload_n (n := 49) X 4 dX11_was_48 rfl rfl rfl ?_
          by_cases c17 : c = 0
          · refine g_tableIn (tgt := 76) X 0 dX11_was_49 (by omega) (by omega) (by omega) (by omega) rfl (by decide) ?_
            refine g_aload (n := 78) X 0 dX11_was_76 rfl rfl ?_
            refine g_iload_n (n := 79) X 3 dX11_was_78 rfl rfl rfl ?_
            refine g_iload_n (n := 80) X 2 dX11_was_79 rfl rfl rfl ?_
            refine g_callVi (n := 83) (As := [gJ b, gJ a]) (rest := []) (cs1 := 0) (ss1 := 0) X (s_X5_placeOf b (by omega) a (by omega) hsz I C ) okX5_placeOf kw_5_32 ⟨kw_5_33, kw_5_34⟩ ⟨rfl, rfl⟩ ⟨Nat.le_of_ble_eq_true rfl, Nat.le_of_ble_eq_true rfl⟩ rfl (by decide) (gsz hsz (by decide)) lay_23 rfl rfl (Nat.le_of_ble_eq_true rfl) ⟨Nat.le_of_ble_eq_true rfl, Nat.le_of_ble_eq_true rfl⟩ rfl rfl dX11_was_80 rfl (fun v18 M19 P20 => ?_)
            obtain ⟨rfl, rv18⟩ := P20
            exact hq _ _ _ _ dX11_was_83 ⟨rfl, by omega⟩
          by_cases c21 : c = 1
          · refine g_tableIn (tgt := 84) X 1 dX11_was_49 (by omega) (by omega) (by omega) (by omega) rfl (by decide) ?_
            refine g_aload (n := 86) X 0 dX11_was_84 rfl rfl ?_
            refine g_iload_n (n := 87) X 3 dX11_was_86 rfl rfl rfl ?_
            refine g_iload_n (n := 88) X 2 dX11_was_87 rfl rfl rfl ?_
            refine g_callVi (n := 91) (As := [gJ b, gJ a]) (rest := []) (cs1 := 0) (ss1 := 0) X (s_X5_eatenBy b (by omega) a (by omega) hsz I C ) okX5_eatenBy kw_5_37 ⟨kw_5_38, kw_5_39⟩ ⟨rfl, rfl⟩ ⟨Nat.le_of_ble_eq_true rfl, Nat.le_of_ble_eq_true rfl⟩ rfl (by decide) (gsz hsz (by decide)) lay_23 rfl rfl (Nat.le_of_ble_eq_true rfl) ⟨Nat.le_of_ble_eq_true rfl, Nat.le_of_ble_eq_true rfl⟩ rfl rfl dX11_was_88 rfl (fun v22 M23 P24 => ?_)
            obtain ⟨rfl, rv22⟩ := P24
            exact hq _ _ _ _ dX11_was_91 ⟨rfl, by omega⟩
          by_cases c25 : c = 2
          · refine g_tableIn (tgt := 92) X 2 dX11_was_49 (by omega) (by omega) (by omega) (by omega) rfl (by decide) ?_
            refine g_aload (n := 94) X 0 dX11_was_92 rfl rfl ?_
            refine g_iload_n (n := 95) X 3 dX11_was_94 rfl rfl rfl ?_
            refine g_iload_n (n := 96) X 2 dX11_was_95 rfl rfl rfl ?_
            refine g_callVi (n := 99) (As := [gJ b, gJ a]) (rest := []) (cs1 := 0) (ss1 := 0) X (s_X5_givenTo b (by omega) a (by omega) hsz I C ) okX5_givenTo kw_5_43 ⟨kw_5_44, kw_5_45⟩ ⟨rfl, rfl⟩ ⟨Nat.le_of_ble_eq_true rfl, Nat.le_of_ble_eq_true rfl⟩ rfl (by decide) (gsz hsz (by decide)) lay_23 rfl rfl (Nat.le_of_ble_eq_true rfl) ⟨Nat.le_of_ble_eq_true rfl, Nat.le_of_ble_eq_true rfl⟩ rfl rfl dX11_was_96 rfl (fun v26 M27 P28 => ?_)
            obtain ⟨rfl, rv26⟩ := P28
            exact hq _ _ _ _ dX11_was_99 ⟨rfl, by omega⟩
          refine g_tableOut (tgt := 100) X dX11_was_49 (by omega) (by omega) (by decide) ?_
          refine g_aload (n := 102) X 0 dX11_was_100 rfl rfl ?_
          refine g_iload_n (n := 103) X 3 dX11_was_102 rfl rfl rfl ?_
          refine g_iload_n (n := 104) X 2 dX11_was_103 rfl rfl rfl ?_
          refine g_callVi (n := 107) (As := [gJ b, gJ a]) (rest := []) (cs1 := 0) (ss1 := 0) X (s_X5_hasAsked b (by omega) a (by omega) hsz I C ) okX5_hasAsked kw_5_47 ⟨kw_5_48, kw_5_49⟩ ⟨rfl, rfl⟩ ⟨Nat.le_of_ble_eq_true rfl, Nat.le_of_ble_eq_true rfl⟩ rfl (by decide) (gsz hsz (by decide)) lay_23 rfl rfl (Nat.le_of_ble_eq_true rfl) ⟨Nat.le_of_ble_eq_true rfl, Nat.le_of_ble_eq_true rfl⟩ rfl rfl dX11_was_104 rfl (fun v29 M30 P31 => ?_)
          obtain ⟨rfl, rv29⟩ := P31
          refine g_if_eq (n := 110) (tgt := 114) X dX11_was_107 (by decide) (by omega) rfl (fun c32 => ?_) (fun c32 => ?_)
          · refine g_iconst (n := 115) X dX11_was_114 rfl ?_
            exact hq _ _ _ _ dX11_was_115 ⟨rfl, by omega⟩
          · refine g_iconst (n := 111) X dX11_was_110 rfl ?_
            refine g_goto (tgt := 115) X dX11_was_111 (by decide) ?_
            exact hq _ _ _ _ dX11_was_115 ⟨rfl, by omega⟩
        · refine g_iconst (n := 47) X dX11_was_46 rfl ?_
          exact hq _ _ _ _ dX11_was_47 ⟨rfl, by omega⟩
      · refine g_iconst (n := 26) X dX11_was_25 rfl ?_
        exact hq _ _ _ _ dX11_was_26 ⟨rfl, by omega⟩
theorem dX11_night_0 : decode cX11_night 0 = .ok (.iload_n 2, 1) := dc_28 (by decide +kernel)
theorem dX11_night_1 : decode cX11_night 1 = .ok (.invokestatic 58, 3) := dc_184 0 58 (by decide +kernel)
theorem dX11_night_4 : decode cX11_night 4 = .ok (.ifCond .ne 5, 3) := dc_154 0 5 5 (by decide +kernel)
theorem dX11_night_9 : decode cX11_night 9 = .ok (.iload_n 1, 1) := dc_27 (by decide +kernel)
theorem dX11_night_10 : decode cX11_night 10 = .ok (.iconst 0, 1) := dc_3 (by decide +kernel)
theorem dX11_night_11 : decode cX11_night 11 = .ok (.bipush 7, 2) := dc_16 7 7 (by decide +kernel)
theorem dX11_night_13 : decode cX11_night 13 = .ok (.invokestatic 62, 3) := dc_184 0 62 (by decide +kernel)
theorem dX11_night_16 : decode cX11_night 16 = .ok (.ifCond .eq 14, 3) := dc_153 0 14 14 (by decide +kernel)
theorem dX11_night_30 : decode cX11_night 30 = .ok (.bipush (-2), 2) := dc_16 254 (-2) (by decide +kernel)
theorem dX11_night_32 : decode cX11_night 32 = .ok (.ireturn, 1) := dc_172 (by decide +kernel)
theorem dX11_night_19 : decode cX11_night 19 = .ok (.iload_n 3, 1) := dc_29 (by decide +kernel)
theorem dX11_night_20 : decode cX11_night 20 = .ok (.iconst 0, 1) := dc_3 (by decide +kernel)
theorem dX11_night_21 : decode cX11_night 21 = .ok (.sipush 300, 3) := dc_17 1 44 300 (by decide +kernel)
theorem dX11_night_24 : decode cX11_night 24 = .ok (.invokestatic 62, 3) := dc_184 0 62 (by decide +kernel)
theorem dX11_night_27 : decode cX11_night 27 = .ok (.ifCond .ne 6, 3) := dc_154 0 6 6 (by decide +kernel)
theorem dX11_night_33 : decode cX11_night 33 = .ok (.aload_n 0, 1) := dc_42 (by decide +kernel)
theorem dX11_night_34 : decode cX11_night 34 = .ok (.getfield 10, 3) := dc_180 0 10 (by decide +kernel)
theorem dX11_night_37 : decode cX11_night 37 = .ok (.getfield 336, 3) := dc_180 1 80 (by decide +kernel)
theorem kw_2_123 : (Jvm.Cond.fieldLink "ParishUnion" (336 : Nat) "ParishUnion$Union" "vagrants" "LParishUnion$Vagrants;") ∈ gT := gT_of (tb_2 _ (List.mem_of_getElem? (i := 123) rfl)) rfl
theorem rf_1_8 {sz : Nat} {M : gM} (I : gI sz M) (h : (1 : Int) < (sz : Int)) : M 1 8 = 26 + 1 := gI.rf I (by decide) h (by decide +kernel)
theorem dX11_night_40 : decode cX11_night 40 = .ok (.getfield 340, 3) := dc_180 1 84 (by decide +kernel)
theorem kw_1_160 : (Jvm.Cond.fieldLink "ParishUnion" (340 : Nat) "ParishUnion$Vagrants" "count" "I") ∈ gT := gT_of (tb_1 _ (List.mem_of_getElem? (i := 160) rfl)) rfl
theorem dX11_night_43 : decode cX11_night 43 = .ok (.bipush 40, 2) := dc_16 40 40 (by decide +kernel)
theorem dX11_night_45 : decode cX11_night 45 = .ok (.if_icmp .lt 6, 3) := dc_161 0 6 6 (by decide +kernel)
theorem dX11_night_51 : decode cX11_night 51 = .ok (.aload_n 0, 1) := dc_42 (by decide +kernel)
theorem dX11_night_52 : decode cX11_night 52 = .ok (.getfield 10, 3) := dc_180 0 10 (by decide +kernel)
theorem dX11_night_55 : decode cX11_night 55 = .ok (.getfield 336, 3) := dc_180 1 80 (by decide +kernel)
theorem dX11_night_58 : decode cX11_night 58 = .ok (.iload_n 1, 1) := dc_27 (by decide +kernel)
theorem dX11_night_59 : decode cX11_night 59 = .ok (.iload_n 2, 1) := dc_28 (by decide +kernel)
theorem dX11_night_60 : decode cX11_night 60 = .ok (.iload_n 3, 1) := dc_29 (by decide +kernel)
theorem dX11_night_61 : decode cX11_night 61 = .ok (.invokevirtual 343, 3) := dc_182 1 87 (by decide +kernel)
theorem kw_5_86 : (Jvm.Cond.methodLink "ParishUnion" (343 : Nat) ({ cls := "ParishUnion$Vagrants", name := "sleep", desc := "(III)V" } : Jvm.MethodName)) ∈ gT := gT_of (tb_5 _ (List.mem_of_getElem? (i := 86) rfl)) rfl
theorem kw_5_89 : (Jvm.Cond.code ({ cls := "ParishUnion$Vagrants", name := "sleep", desc := "(III)V" } : Jvm.MethodName) prog_12_method_3_code (5 : Nat) (Option.none : Option Jvm.ClassFile.FieldType)) ∈ gT := gT_of (tb_5 _ (List.mem_of_getElem? (i := 89) rfl)) rfl
theorem kw_1_7 : (Jvm.Cond.initialized "ParishUnion$Vagrants") ∈ gT := gT_of (tb_1 _ (List.mem_of_getElem? (i := 7) rfl)) rfl
theorem okX10_sleep : gQok yX10_sleep cX10_sleep 5 (Option.none : Option Jvm.ClassFile.FieldType) 3 := ⟨kw_5_89, kw_1_7, by decide +kernel, by decide +kernel, by decide +kernel⟩
theorem kw_5_87 : (Jvm.Cond.instanceMethod ({ cls := "ParishUnion$Vagrants", name := "sleep", desc := "(III)V" } : Jvm.MethodName)) ∈ gT := gT_of (tb_5 _ (List.mem_of_getElem? (i := 87) rfl)) rfl
theorem kw_5_88 : (Jvm.Cond.selects "ParishUnion$Vagrants" ({ cls := "ParishUnion$Vagrants", name := "sleep", desc := "(III)V" } : Jvm.MethodName) ({ cls := "ParishUnion$Vagrants", name := "sleep", desc := "(III)V" } : Jvm.MethodName)) ∈ gT := gT_of (tb_5 _ (List.mem_of_getElem? (i := 88) rfl)) rfl
theorem dX11_night_64 : decode cX11_night 64 = .ok (.aload_n 0, 1) := dc_42 (by decide +kernel)
theorem dX11_night_65 : decode cX11_night 65 = .ok (.getfield 10, 3) := dc_180 0 10 (by decide +kernel)
theorem dX11_night_68 : decode cX11_night 68 = .ok (.getfield 336, 3) := dc_180 1 80 (by decide +kernel)
theorem dX11_night_71 : decode cX11_night 71 = .ok (.getfield 340, 3) := dc_180 1 84 (by decide +kernel)
theorem dX11_night_74 : decode cX11_night 74 = .ok (.ireturn, 1) := dc_172 (by decide +kernel)
theorem dX11_night_48 : decode cX11_night 48 = .ok (.bipush (-4), 2) := dc_16 252 (-4) (by decide +kernel)
theorem dX11_night_50 : decode cX11_night 50 = .ok (.ireturn, 1) := dc_172 (by decide +kernel)
theorem dX11_night_7 : decode cX11_night 7 = .ok (.iconst (-1), 1) := dc_2 (by decide +kernel)
theorem dX11_night_8 : decode cX11_night 8 = .ok (.ireturn, 1) := dc_172 (by decide +kernel)
abbrev R_X11_night : Room := { frames := 2, cells := 0, slots := 0, locals := 42 }
set_option maxRecDepth 100000 in
set_option maxHeartbeats 4000000 in
theorem s_X11_night {l : Launch} {n0 : Nat} {D : va_G} {cA : Nat → ClassId} {M : gM} (a : Int) (r_a : -2147483648 ≤ a ∧ a ≤ 2147483647) (b : Int) (r_b : -2147483648 ≤ b ∧ b ≤ 2147483647) (c : Int) (r_c : -2147483648 ≤ c ∧ c ≤ 2147483647) {sz : Nat} (hsz : 206 ≤ sz) (I : gI sz M) (C : gC sz M)   : Met l yX11_night (gWsOf yX11_night cX11_night 4 (Option.some Jvm.ClassFile.FieldType.int)) R_X11_night (gPc n0 D cA [gA n0 0, gJ a, gJ b, gJ c] M sz) (gQi n0 D cA sz (fun z M1 => (-4 ≤ z ∧ z ≤ 40) ∧ gI sz M1 ∧ gC sz M1 ∧ gFr 393216 M M1 ∧ ((¬ (0 ≤ b ∧ b ≤ 5) ∧ z = -1 ∧ M1 26 3 = M 26 3) ∨ ((0 ≤ b ∧ b ≤ 5) ∧ ¬ ((0 ≤ a ∧ a ≤ 7) ∧ (0 ≤ c ∧ c ≤ 300)) ∧ z = -2 ∧ M1 26 3 = M 26 3) ∨ ((0 ≤ b ∧ b ≤ 5) ∧ ((0 ≤ a ∧ a ≤ 7) ∧ (0 ≤ c ∧ c ≤ 300)) ∧ M 26 3 = 40 ∧ z = -4 ∧ M1 26 3 = M 26 3) ∨ ((0 ≤ b ∧ b ≤ 5) ∧ ((0 ≤ a ∧ a ≤ 7) ∧ (0 ≤ c ∧ c ≤ 300)) ∧ M 26 3 < 40 ∧ z = M 26 3 + 1 ∧ M1 26 3 = M 26 3 + 1)))) 0 0 (fun q => n0 ≤ q) := by
  refine gMetI [gA n0 0, gJ a, gJ b, gJ c] (by decide) (Nat.le_of_ble_eq_true rfl) ⟨rfl, rfl⟩ ?_
  intro p e s m args below meth cd Q X hq
  have X : gCx p s m args meth cd n0 D cA "ParishUnion" cX11_night 4 := X
  show G p l e R_X11_night s m args below meth cd n0 D cA 4 Q 0 0 M sz 0 [(0, gA n0 0), (1, gJ a), (2, gJ b), (3, gJ c)] []
  obtain ⟨v1, hv1, rv1⟩ := gRd I (by decide) (gsz hsz (by decide)) rc_26_3.1
  refine g_iload_n (n := 1) X 2 dX11_night_0 rfl rfl rfl ?_
  refine g_callSi (n := 4) (As := [gJ b]) (rest := []) (cs1 := 0) (ss1 := 0) X (s_X11_isParish b (by omega) hsz I C ) okX11_isParish kw_3_26 kw_3_27 ⟨rfl, rfl⟩ ⟨Nat.le_of_ble_eq_true rfl, Nat.le_of_ble_eq_true rfl⟩ rfl rfl (Nat.le_of_ble_eq_true rfl) ⟨Nat.le_of_ble_eq_true rfl, Nat.le_of_ble_eq_true rfl⟩ rfl rfl dX11_night_1 rfl (fun v2 M3 P4 => ?_)
  obtain ⟨rfl, rv2, xv2⟩ := P4
  refine g_if_ne (n := 7) (tgt := 9) X dX11_night_4 (by decide) (by omega) rfl (fun c5 => ?_) (fun c5 => ?_)
  · refine g_iload_n (n := 10) X 1 dX11_night_9 rfl rfl rfl ?_
    refine g_iconst (n := 11) X dX11_night_10 rfl ?_
    refine g_bipush (n := 13) X dX11_night_11 (by decide +kernel) rfl ?_
    refine g_callSi (n := 16) (As := [gJ a, gJ 0, gJ 7]) (rest := []) (cs1 := 0) (ss1 := 0) X (s_X11_within a (by omega) 0 (by omega) 7 (by omega) hsz I C ) okX11_within kw_3_29 kw_3_30 ⟨rfl, rfl⟩ ⟨Nat.le_of_ble_eq_true rfl, Nat.le_of_ble_eq_true rfl⟩ rfl rfl (Nat.le_of_ble_eq_true rfl) ⟨Nat.le_of_ble_eq_true rfl, Nat.le_of_ble_eq_true rfl⟩ rfl rfl dX11_night_13 rfl (fun v6 M7 P8 => ?_)
    obtain ⟨rfl, rv6, xv6⟩ := P8
    refine g_if_eq (n := 19) (tgt := 30) X dX11_night_16 (by decide) (by omega) rfl (fun c9 => ?_) (fun c9 => ?_)
    · refine g_bipush (n := 32) X dX11_night_30 (by decide +kernel) rfl ?_
      exact hq _ _ _ _ dX11_night_32 ⟨by omega, I, C, gFr.rf, by have q0 := hv1; omega⟩
    · refine g_iload_n (n := 20) X 3 dX11_night_19 rfl rfl rfl ?_
      refine g_iconst (n := 21) X dX11_night_20 rfl ?_
      refine g_sipush (n := 24) X dX11_night_21 (by decide +kernel) rfl ?_
      refine g_callSi (n := 27) (As := [gJ c, gJ 0, gJ 300]) (rest := []) (cs1 := 0) (ss1 := 0) X (s_X11_within c (by omega) 0 (by omega) 300 (by omega) hsz I C ) okX11_within kw_3_29 kw_3_30 ⟨rfl, rfl⟩ ⟨Nat.le_of_ble_eq_true rfl, Nat.le_of_ble_eq_true rfl⟩ rfl rfl (Nat.le_of_ble_eq_true rfl) ⟨Nat.le_of_ble_eq_true rfl, Nat.le_of_ble_eq_true rfl⟩ rfl rfl dX11_night_24 rfl (fun v10 M11 P12 => ?_)
      obtain ⟨rfl, rv10, xv10⟩ := P12
      refine g_if_ne (n := 30) (tgt := 33) X dX11_night_27 (by decide) (by omega) rfl (fun c13 => ?_) (fun c13 => ?_)
      · refine g_aload_n (n := 34) X 0 dX11_night_33 rfl rfl rfl ?_
        refine gg_11_0 (n := 37) (z := 1) X (by decide) (gsz hsz (by decide)) lay_0 kw_2_231 dX11_night_34 rfl (rf_0_0 I (gsz hsz (by decide))) (by decide) ?_
        refine gg_9_8 (n := 40) (z := 26) X (by decide) (gsz hsz (by decide)) lay_1 kw_2_123 dX11_night_37 rfl (rf_1_8 I (gsz hsz (by decide))) (by decide) ?_
        refine gg_10_3 (n := 43) (z := v1) X (by decide) (gsz hsz (by decide)) lay_26 kw_1_160 dX11_night_40 rfl hv1 ?_
        refine g_bipush (n := 45) X dX11_night_43 (by decide +kernel) rfl ?_
        refine g_icmp_lt (n := 48) (tgt := 51) X dX11_night_45 (by decide) (by omega) (by omega) rfl (fun c14 => ?_) (fun c14 => ?_)
        · refine g_aload_n (n := 52) X 0 dX11_night_51 rfl rfl rfl ?_
          refine gg_11_0 (n := 55) (z := 1) X (by decide) (gsz hsz (by decide)) lay_0 kw_2_231 dX11_night_52 rfl (rf_0_0 I (gsz hsz (by decide))) (by decide) ?_
          refine gg_9_8 (n := 58) (z := 26) X (by decide) (gsz hsz (by decide)) lay_1 kw_2_123 dX11_night_55 rfl (rf_1_8 I (gsz hsz (by decide))) (by decide) ?_
          refine g_iload_n (n := 59) X 1 dX11_night_58 rfl rfl rfl ?_
          refine g_iload_n (n := 60) X 2 dX11_night_59 rfl rfl rfl ?_
          refine g_iload_n (n := 61) X 3 dX11_night_60 rfl rfl rfl ?_
          refine g_callVv (n := 64) (As := [gJ a, gJ b, gJ c]) (rest := []) (cs1 := 0) (ss1 := 0) X (s_X10_sleep a (by omega) b (by omega) c (by omega) hsz I C ) okX10_sleep kw_5_86 ⟨kw_5_87, kw_5_88⟩ ⟨rfl, rfl⟩ ⟨Nat.le_of_ble_eq_true rfl, Nat.le_of_ble_eq_true rfl⟩ rfl (by decide) (gsz hsz (by decide)) lay_26 rfl rfl (Nat.le_of_ble_eq_true rfl) ⟨Nat.le_of_ble_eq_true rfl, Nat.le_of_ble_eq_true rfl⟩ rfl rfl dX11_night_61 rfl (fun M16 P17 => ?_)
          obtain ⟨IM16, CM16, FM16, xM16⟩ := P17
          refine g_aload_n (n := 65) X 0 dX11_night_64 rfl rfl rfl ?_
          refine gg_11_0 (n := 68) (z := 1) X (by decide) (gsz hsz (by decide)) lay_0 kw_2_231 dX11_night_65 rfl (rf_0_0 IM16 (gsz hsz (by decide))) (by decide) ?_
          refine gg_9_8 (n := 71) (z := 26) X (by decide) (gsz hsz (by decide)) lay_1 kw_2_123 dX11_night_68 rfl (rf_1_8 IM16 (gsz hsz (by decide))) (by decide) ?_
          obtain ⟨v18, hv18, rv18⟩ := gRd IM16 (by decide) (gsz hsz (by decide)) rc_26_3.1
          refine gg_10_3 (n := 74) (z := v18) X (by decide) (gsz hsz (by decide)) lay_26 kw_1_160 dX11_night_71 rfl hv18 ?_
          exact hq _ _ _ _ dX11_night_74 ⟨by omega, IM16, CM16, (gFr.c gFr.rf FM16 rfl), by have q0 := hv18; omega⟩
        · refine g_bipush (n := 50) X dX11_night_48 (by decide +kernel) rfl ?_
          exact hq _ _ _ _ dX11_night_50 ⟨by omega, I, C, gFr.rf, by have q0 := hv1; omega⟩
      · refine g_bipush (n := 32) X dX11_night_30 (by decide +kernel) rfl ?_
        exact hq _ _ _ _ dX11_night_32 ⟨by omega, I, C, gFr.rf, by have q0 := hv1; omega⟩
  · refine g_iconst (n := 8) X dX11_night_7 rfl ?_
    exact hq _ _ _ _ dX11_night_8 ⟨by omega, I, C, gFr.rf, by have q0 := hv1; omega⟩
theorem dX11_one_0 : decode cX11_one 0 = .ok (.iload_n 1, 1) := dc_27 (by decide +kernel)
theorem dX11_one_1 : decode cX11_one 1 = .ok (.iconst 0, 1) := dc_3 (by decide +kernel)
theorem dX11_one_2 : decode cX11_one 2 = .ok (.sipush 255, 3) := dc_17 0 255 255 (by decide +kernel)
theorem dX11_one_5 : decode cX11_one 5 = .ok (.invokestatic 62, 3) := dc_184 0 62 (by decide +kernel)
theorem dX11_one_8 : decode cX11_one 8 = .ok (.ifCond .ne 6, 3) := dc_154 0 6 6 (by decide +kernel)
theorem dX11_one_14 : decode cX11_one 14 = .ok (.aload_n 0, 1) := dc_42 (by decide +kernel)
theorem dX11_one_15 : decode cX11_one 15 = .ok (.getfield 10, 3) := dc_180 0 10 (by decide +kernel)
theorem dX11_one_18 : decode cX11_one 18 = .ok (.getfield 336, 3) := dc_180 1 80 (by decide +kernel)
theorem dX11_one_21 : decode cX11_one 21 = .ok (.iload_n 1, 1) := dc_27 (by decide +kernel)
theorem dX11_one_22 : decode cX11_one 22 = .ok (.aload_n 0, 1) := dc_42 (by decide +kernel)
theorem dX11_one_23 : decode cX11_one 23 = .ok (.getfield 10, 3) := dc_180 0 10 (by decide +kernel)
theorem dX11_one_26 : decode cX11_one 26 = .ok (.getfield 66, 3) := dc_180 0 66 (by decide +kernel)
theorem dX11_one_29 : decode cX11_one 29 = .ok (.invokevirtual 347, 3) := dc_182 1 91 (by decide +kernel)
theorem kw_5_94 : (Jvm.Cond.methodLink "ParishUnion" (347 : Nat) ({ cls := "ParishUnion$Vagrants", name := "mayBeOne", desc := "(ILParishUnion$Land;)Z" } : Jvm.MethodName)) ∈ gT := gT_of (tb_5 _ (List.mem_of_getElem? (i := 94) rfl)) rfl
theorem kw_5_97 : (Jvm.Cond.code ({ cls := "ParishUnion$Vagrants", name := "mayBeOne", desc := "(ILParishUnion$Land;)Z" } : Jvm.MethodName) prog_12_method_4_code (6 : Nat) (Option.some Jvm.ClassFile.FieldType.boolean)) ∈ gT := gT_of (tb_5 _ (List.mem_of_getElem? (i := 97) rfl)) rfl
theorem okX10_mayBeOne : gQok yX10_mayBeOne cX10_mayBeOne 6 (Option.some Jvm.ClassFile.FieldType.boolean) 2 := ⟨kw_5_97, kw_1_7, by decide +kernel, by decide +kernel, by decide +kernel⟩
theorem kw_5_95 : (Jvm.Cond.instanceMethod ({ cls := "ParishUnion$Vagrants", name := "mayBeOne", desc := "(ILParishUnion$Land;)Z" } : Jvm.MethodName)) ∈ gT := gT_of (tb_5 _ (List.mem_of_getElem? (i := 95) rfl)) rfl
theorem kw_5_96 : (Jvm.Cond.selects "ParishUnion$Vagrants" ({ cls := "ParishUnion$Vagrants", name := "mayBeOne", desc := "(ILParishUnion$Land;)Z" } : Jvm.MethodName) ({ cls := "ParishUnion$Vagrants", name := "mayBeOne", desc := "(ILParishUnion$Land;)Z" } : Jvm.MethodName)) ∈ gT := gT_of (tb_5 _ (List.mem_of_getElem? (i := 96) rfl)) rfl
theorem dX11_one_32 : decode cX11_one 32 = .ok (.ifCond .eq 7, 3) := dc_153 0 7 7 (by decide +kernel)
theorem dX11_one_39 : decode cX11_one 39 = .ok (.iconst 0, 1) := dc_3 (by decide +kernel)
theorem dX11_one_40 : decode cX11_one 40 = .ok (.ireturn, 1) := dc_172 (by decide +kernel)
theorem dX11_one_35 : decode cX11_one 35 = .ok (.iconst 1, 1) := dc_4 (by decide +kernel)
theorem dX11_one_36 : decode cX11_one 36 = .ok (.goto 4, 3) := dc_167 0 4 4 (by decide +kernel)
theorem dX11_one_11 : decode cX11_one 11 = .ok (.bipush (-2), 2) := dc_16 254 (-2) (by decide +kernel)
theorem dX11_one_13 : decode cX11_one 13 = .ok (.ireturn, 1) := dc_172 (by decide +kernel)
abbrev R_X11_one : Room := { frames := 2, cells := 0, slots := 0, locals := 47 }
set_option maxRecDepth 100000 in
set_option maxHeartbeats 4000000 in
theorem s_X11_one {l : Launch} {n0 : Nat} {D : va_G} {cA : Nat → ClassId} {M : gM} (a : Int) (r_a : -2147483648 ≤ a ∧ a ≤ 2147483647) {sz : Nat} (hsz : 206 ≤ sz) (I : gI sz M) (C : gC sz M)   : Met l yX11_one (gWsOf yX11_one cX11_one 2 (Option.some Jvm.ClassFile.FieldType.int)) R_X11_one (gPc n0 D cA [gA n0 0, gJ a] M sz) (gQi n0 D cA sz (fun z M1 => M = M1 ∧ (-2 ≤ z ∧ z ≤ 1))) 0 0 (fun q => n0 ≤ q) := by
  refine gMetI [gA n0 0, gJ a] (by decide) (Nat.le_of_ble_eq_true rfl) ⟨rfl, rfl⟩ ?_
  intro p e s m args below meth cd Q X hq
  have X : gCx p s m args meth cd n0 D cA "ParishUnion" cX11_one 2 := X
  show G p l e R_X11_one s m args below meth cd n0 D cA 2 Q 0 0 M sz 0 [(0, gA n0 0), (1, gJ a)] []
  refine g_iload_n (n := 1) X 1 dX11_one_0 rfl rfl rfl ?_
  refine g_iconst (n := 2) X dX11_one_1 rfl ?_
  refine g_sipush (n := 5) X dX11_one_2 (by decide +kernel) rfl ?_
  refine g_callSi (n := 8) (As := [gJ a, gJ 0, gJ 255]) (rest := []) (cs1 := 0) (ss1 := 0) X (s_X11_within a (by omega) 0 (by omega) 255 (by omega) hsz I C ) okX11_within kw_3_29 kw_3_30 ⟨rfl, rfl⟩ ⟨Nat.le_of_ble_eq_true rfl, Nat.le_of_ble_eq_true rfl⟩ rfl rfl (Nat.le_of_ble_eq_true rfl) ⟨Nat.le_of_ble_eq_true rfl, Nat.le_of_ble_eq_true rfl⟩ rfl rfl dX11_one_5 rfl (fun v1 M2 P3 => ?_)
  obtain ⟨rfl, rv1, xv1⟩ := P3
  refine g_if_ne (n := 11) (tgt := 14) X dX11_one_8 (by decide) (by omega) rfl (fun c4 => ?_) (fun c4 => ?_)
  · refine g_aload_n (n := 15) X 0 dX11_one_14 rfl rfl rfl ?_
    refine gg_11_0 (n := 18) (z := 1) X (by decide) (gsz hsz (by decide)) lay_0 kw_2_231 dX11_one_15 rfl (rf_0_0 I (gsz hsz (by decide))) (by decide) ?_
    refine gg_9_8 (n := 21) (z := 26) X (by decide) (gsz hsz (by decide)) lay_1 kw_2_123 dX11_one_18 rfl (rf_1_8 I (gsz hsz (by decide))) (by decide) ?_
    refine g_iload_n (n := 22) X 1 dX11_one_21 rfl rfl rfl ?_
    refine g_aload_n (n := 23) X 0 dX11_one_22 rfl rfl rfl ?_
    refine gg_11_0 (n := 26) (z := 1) X (by decide) (gsz hsz (by decide)) lay_0 kw_2_231 dX11_one_23 rfl (rf_0_0 I (gsz hsz (by decide))) (by decide) ?_
    refine gg_9_0 (n := 29) (z := 2) X (by decide) (gsz hsz (by decide)) lay_1 kw_2_105 dX11_one_26 rfl (rf_1_0 I (gsz hsz (by decide))) (by decide) ?_
    refine g_callVi (n := 32) (As := [gJ a, gA n0 2]) (rest := []) (cs1 := 0) (ss1 := 0) X (s_X10_mayBeOne a (by omega) hsz I C ) okX10_mayBeOne kw_5_94 ⟨kw_5_95, kw_5_96⟩ ⟨rfl, rfl⟩ ⟨Nat.le_of_ble_eq_true rfl, Nat.le_of_ble_eq_true rfl⟩ rfl (by decide) (gsz hsz (by decide)) lay_26 rfl rfl (Nat.le_of_ble_eq_true rfl) ⟨Nat.le_of_ble_eq_true rfl, Nat.le_of_ble_eq_true rfl⟩ rfl rfl dX11_one_29 rfl (fun v5 M6 P7 => ?_)
    obtain ⟨rfl, rv5⟩ := P7
    refine g_if_eq (n := 35) (tgt := 39) X dX11_one_32 (by decide) (by omega) rfl (fun c8 => ?_) (fun c8 => ?_)
    · refine g_iconst (n := 40) X dX11_one_39 rfl ?_
      exact hq _ _ _ _ dX11_one_40 ⟨rfl, by omega⟩
    · refine g_iconst (n := 36) X dX11_one_35 rfl ?_
      refine g_goto (tgt := 40) X dX11_one_36 (by decide) ?_
      exact hq _ _ _ _ dX11_one_40 ⟨rfl, by omega⟩
  · refine g_bipush (n := 13) X dX11_one_11 (by decide +kernel) rfl ?_
    exact hq _ _ _ _ dX11_one_13 ⟨rfl, by omega⟩
theorem dX11_master_0 : decode cX11_master 0 = .ok (.iload_n 1, 1) := dc_27 (by decide +kernel)
theorem dX11_master_1 : decode cX11_master 1 = .ok (.iconst 0, 1) := dc_3 (by decide +kernel)
theorem dX11_master_2 : decode cX11_master 2 = .ok (.iconst 3, 1) := dc_6 (by decide +kernel)
theorem dX11_master_3 : decode cX11_master 3 = .ok (.invokestatic 62, 3) := dc_184 0 62 (by decide +kernel)
theorem dX11_master_6 : decode cX11_master 6 = .ok (.ifCond .ne 5, 3) := dc_154 0 5 5 (by decide +kernel)
theorem dX11_master_11 : decode cX11_master 11 = .ok (.iload_n 2, 1) := dc_28 (by decide +kernel)
theorem dX11_master_12 : decode cX11_master 12 = .ok (.iconst 0, 1) := dc_3 (by decide +kernel)
theorem dX11_master_13 : decode cX11_master 13 = .ok (.bipush 9, 2) := dc_16 9 9 (by decide +kernel)
theorem dX11_master_15 : decode cX11_master 15 = .ok (.invokestatic 62, 3) := dc_184 0 62 (by decide +kernel)
theorem dX11_master_18 : decode cX11_master 18 = .ok (.ifCond .eq 15, 3) := dc_153 0 15 15 (by decide +kernel)
theorem dX11_master_33 : decode cX11_master 33 = .ok (.bipush (-2), 2) := dc_16 254 (-2) (by decide +kernel)
theorem dX11_master_35 : decode cX11_master 35 = .ok (.ireturn, 1) := dc_172 (by decide +kernel)
theorem dX11_master_21 : decode cX11_master 21 = .ok (.iload_n 2, 1) := dc_28 (by decide +kernel)
theorem dX11_master_22 : decode cX11_master 22 = .ok (.aload_n 0, 1) := dc_42 (by decide +kernel)
theorem dX11_master_23 : decode cX11_master 23 = .ok (.getfield 10, 3) := dc_180 0 10 (by decide +kernel)
theorem dX11_master_26 : decode cX11_master 26 = .ok (.iload_n 1, 1) := dc_27 (by decide +kernel)
theorem dX11_master_27 : decode cX11_master 27 = .ok (.invokevirtual 355, 3) := dc_182 1 99 (by decide +kernel)
theorem kw_5_113 : (Jvm.Cond.methodLink "ParishUnion" (355 : Nat) ({ cls := "ParishUnion$Union", name := "boundTo", desc := "(I)I" } : Jvm.MethodName)) ∈ gT := gT_of (tb_5 _ (List.mem_of_getElem? (i := 113) rfl)) rfl
theorem kw_5_116 : (Jvm.Cond.code ({ cls := "ParishUnion$Union", name := "boundTo", desc := "(I)I" } : Jvm.MethodName) prog_11_method_8_code (4 : Nat) (Option.some Jvm.ClassFile.FieldType.int)) ∈ gT := gT_of (tb_5 _ (List.mem_of_getElem? (i := 116) rfl)) rfl
theorem okX9_boundTo : gQok yX9_boundTo cX9_boundTo 4 (Option.some Jvm.ClassFile.FieldType.int) 1 := ⟨kw_5_116, kw_1_2, by decide +kernel, by decide +kernel, by decide +kernel⟩
theorem kw_5_114 : (Jvm.Cond.instanceMethod ({ cls := "ParishUnion$Union", name := "boundTo", desc := "(I)I" } : Jvm.MethodName)) ∈ gT := gT_of (tb_5 _ (List.mem_of_getElem? (i := 114) rfl)) rfl
theorem kw_5_115 : (Jvm.Cond.selects "ParishUnion$Union" ({ cls := "ParishUnion$Union", name := "boundTo", desc := "(I)I" } : Jvm.MethodName) ({ cls := "ParishUnion$Union", name := "boundTo", desc := "(I)I" } : Jvm.MethodName)) ∈ gT := gT_of (tb_5 _ (List.mem_of_getElem? (i := 115) rfl)) rfl
theorem dX11_master_30 : decode cX11_master 30 = .ok (.if_icmp .ge 6, 3) := dc_162 0 6 6 (by decide +kernel)
theorem dX11_master_36 : decode cX11_master 36 = .ok (.aload_n 0, 1) := dc_42 (by decide +kernel)
theorem dX11_master_37 : decode cX11_master 37 = .ok (.getfield 10, 3) := dc_180 0 10 (by decide +kernel)
theorem dX11_master_40 : decode cX11_master 40 = .ok (.getfield 358, 3) := dc_180 1 102 (by decide +kernel)
theorem kw_2_125 : (Jvm.Cond.fieldLink "ParishUnion" (358 : Nat) "ParishUnion$Union" "rooms" "[I") ∈ gT := gT_of (tb_2 _ (List.mem_of_getElem? (i := 125) rfl)) rfl
theorem rf_1_9 {sz : Nat} {M : gM} (I : gI sz M) (h : (1 : Int) < (sz : Int)) : M 1 9 = 30 + 1 := gI.rf I (by decide) h (by decide +kernel)
theorem dX11_master_43 : decode cX11_master 43 = .ok (.iload_n 1, 1) := dc_27 (by decide +kernel)
theorem dX11_master_44 : decode cX11_master 44 = .ok (.iaload, 1) := dc_46 (by decide +kernel)
theorem ra_30 (k : Int) : gRg 30 k = (-2147483648, 2147483647) ∧ gCr 30 k = false ∧ gG 30 k = 19 := ⟨rfl, rfl, rfl⟩
theorem dX11_master_45 : decode cX11_master 45 = .ok (.istore_n 3, 1) := dc_62 (by decide +kernel)
theorem dX11_master_46 : decode cX11_master 46 = .ok (.aload_n 0, 1) := dc_42 (by decide +kernel)
theorem dX11_master_47 : decode cX11_master 47 = .ok (.getfield 10, 3) := dc_180 0 10 (by decide +kernel)
theorem dX11_master_50 : decode cX11_master 50 = .ok (.getfield 358, 3) := dc_180 1 102 (by decide +kernel)
theorem dX11_master_53 : decode cX11_master 53 = .ok (.iload_n 1, 1) := dc_27 (by decide +kernel)
theorem dX11_master_54 : decode cX11_master 54 = .ok (.iload_n 2, 1) := dc_28 (by decide +kernel)
theorem dX11_master_55 : decode cX11_master 55 = .ok (.iastore, 1) := dc_79 (by decide +kernel)
theorem dX11_master_56 : decode cX11_master 56 = .ok (.iload_n 3, 1) := dc_29 (by decide +kernel)
theorem dX11_master_57 : decode cX11_master 57 = .ok (.ireturn, 1) := dc_172 (by decide +kernel)
theorem dX11_master_9 : decode cX11_master 9 = .ok (.iconst (-1), 1) := dc_2 (by decide +kernel)
theorem dX11_master_10 : decode cX11_master 10 = .ok (.ireturn, 1) := dc_172 (by decide +kernel)
abbrev R_X11_master : Room := { frames := 1, cells := 0, slots := 0, locals := 23 }
set_option maxRecDepth 100000 in
set_option maxHeartbeats 4000000 in
theorem s_X11_master {l : Launch} {n0 : Nat} {D : va_G} {cA : Nat → ClassId} {M : gM} (a : Int) (r_a : -2147483648 ≤ a ∧ a ≤ 2147483647) (b : Int) (r_b : -2147483648 ≤ b ∧ b ≤ 2147483647) {sz : Nat} (hsz : 206 ≤ sz) (I : gI sz M) (C : gC sz M)   : Met l yX11_master (gWsOf yX11_master cX11_master 4 (Option.some Jvm.ClassFile.FieldType.int)) R_X11_master (gPc n0 D cA [gA n0 0, gJ a, gJ b] M sz) (gQi n0 D cA sz (fun z M1 => (-2147483648 ≤ z ∧ z ≤ 2147483647) ∧ gI sz M1 ∧ gC sz M1 ∧ gFr 524288 M M1)) 0 0 (fun q => n0 ≤ q) := by
  refine gMetI [gA n0 0, gJ a, gJ b] (by decide) (Nat.le_of_ble_eq_true rfl) ⟨rfl, rfl⟩ ?_
  intro p e s m args below meth cd Q X hq
  have X : gCx p s m args meth cd n0 D cA "ParishUnion" cX11_master 4 := X
  show G p l e R_X11_master s m args below meth cd n0 D cA 4 Q 0 0 M sz 0 [(0, gA n0 0), (1, gJ a), (2, gJ b)] []
  refine g_iload_n (n := 1) X 1 dX11_master_0 rfl rfl rfl ?_
  refine g_iconst (n := 2) X dX11_master_1 rfl ?_
  refine g_iconst (n := 3) X dX11_master_2 rfl ?_
  refine g_callSi (n := 6) (As := [gJ a, gJ 0, gJ 3]) (rest := []) (cs1 := 0) (ss1 := 0) X (s_X11_within a (by omega) 0 (by omega) 3 (by omega) hsz I C ) okX11_within kw_3_29 kw_3_30 ⟨rfl, rfl⟩ ⟨Nat.le_of_ble_eq_true rfl, Nat.le_of_ble_eq_true rfl⟩ rfl rfl (Nat.le_of_ble_eq_true rfl) ⟨Nat.le_of_ble_eq_true rfl, Nat.le_of_ble_eq_true rfl⟩ rfl rfl dX11_master_3 rfl (fun v1 M2 P3 => ?_)
  obtain ⟨rfl, rv1, xv1⟩ := P3
  refine g_if_ne (n := 9) (tgt := 11) X dX11_master_6 (by decide) (by omega) rfl (fun c4 => ?_) (fun c4 => ?_)
  · refine g_iload_n (n := 12) X 2 dX11_master_11 rfl rfl rfl ?_
    refine g_iconst (n := 13) X dX11_master_12 rfl ?_
    refine g_bipush (n := 15) X dX11_master_13 (by decide +kernel) rfl ?_
    refine g_callSi (n := 18) (As := [gJ b, gJ 0, gJ 9]) (rest := []) (cs1 := 0) (ss1 := 0) X (s_X11_within b (by omega) 0 (by omega) 9 (by omega) hsz I C ) okX11_within kw_3_29 kw_3_30 ⟨rfl, rfl⟩ ⟨Nat.le_of_ble_eq_true rfl, Nat.le_of_ble_eq_true rfl⟩ rfl rfl (Nat.le_of_ble_eq_true rfl) ⟨Nat.le_of_ble_eq_true rfl, Nat.le_of_ble_eq_true rfl⟩ rfl rfl dX11_master_15 rfl (fun v5 M6 P7 => ?_)
    obtain ⟨rfl, rv5, xv5⟩ := P7
    refine g_if_eq (n := 21) (tgt := 33) X dX11_master_18 (by decide) (by omega) rfl (fun c8 => ?_) (fun c8 => ?_)
    · refine g_bipush (n := 35) X dX11_master_33 (by decide +kernel) rfl ?_
      exact hq _ _ _ _ dX11_master_35 ⟨by omega, I, C, gFr.rf⟩
    · refine g_iload_n (n := 22) X 2 dX11_master_21 rfl rfl rfl ?_
      refine g_aload_n (n := 23) X 0 dX11_master_22 rfl rfl rfl ?_
      refine gg_11_0 (n := 26) (z := 1) X (by decide) (gsz hsz (by decide)) lay_0 kw_2_231 dX11_master_23 rfl (rf_0_0 I (gsz hsz (by decide))) (by decide) ?_
      refine g_iload_n (n := 27) X 1 dX11_master_26 rfl rfl rfl ?_
      refine g_callVi (n := 30) (As := [gJ a]) (rest := [gJ b]) (cs1 := 0) (ss1 := 0) X (s_X9_boundTo a (by omega) hsz I C ) okX9_boundTo kw_5_113 ⟨kw_5_114, kw_5_115⟩ ⟨rfl, rfl⟩ ⟨Nat.le_of_ble_eq_true rfl, Nat.le_of_ble_eq_true rfl⟩ rfl (by decide) (gsz hsz (by decide)) lay_1 rfl rfl (Nat.le_of_ble_eq_true rfl) ⟨Nat.le_of_ble_eq_true rfl, Nat.le_of_ble_eq_true rfl⟩ rfl rfl dX11_master_27 rfl (fun v9 M10 P11 => ?_)
      obtain ⟨rfl, rv9⟩ := P11
      refine g_icmp_ge (n := 33) (tgt := 36) X dX11_master_30 (by decide) (by omega) (by omega) rfl (fun c12 => ?_) (fun c12 => ?_)
      · refine g_aload_n (n := 37) X 0 dX11_master_36 rfl rfl rfl ?_
        refine gg_11_0 (n := 40) (z := 1) X (by decide) (gsz hsz (by decide)) lay_0 kw_2_231 dX11_master_37 rfl (rf_0_0 I (gsz hsz (by decide))) (by decide) ?_
        refine gg_9_9 (n := 43) (z := 30) X (by decide) (gsz hsz (by decide)) lay_1 kw_2_125 dX11_master_40 rfl (rf_1_9 I (gsz hsz (by decide))) (by decide) ?_
        refine g_iload_n (n := 44) X 1 dX11_master_43 rfl rfl rfl ?_
        obtain ⟨v13, hv13, rv13⟩ := gRd I (by decide) (gsz hsz (by decide)) (ra_30 a).1
        refine g_iald2 (n := 45) (v := v13) X (by decide) (gsz hsz (by decide)) lay_30 (by omega) (by omega) (by decide) dX11_master_44 rfl hv13 ?_
        refine g_istore_n (n := 46) (L' := [(3, gJ v13), (0, gA n0 0), (1, gJ a), (2, gJ b)]) X dX11_master_45 rfl (by decide) rfl rfl ?_
        refine g_aload_n (n := 47) X 1 dX11_master_46 rfl rfl rfl ?_
        refine gg_11_0 (n := 50) (z := 1) X (by decide) (gsz hsz (by decide)) lay_0 kw_2_231 dX11_master_47 rfl (rf_0_0 I (gsz hsz (by decide))) (by decide) ?_
        refine gg_9_9 (n := 53) (z := 30) X (by decide) (gsz hsz (by decide)) lay_1 kw_2_125 dX11_master_50 rfl (rf_1_9 I (gsz hsz (by decide))) (by decide) ?_
        refine g_iload_n (n := 54) X 2 dX11_master_53 rfl rfl rfl ?_
        refine g_iload_n (n := 55) X 3 dX11_master_54 rfl rfl rfl ?_
        refine g_iast (n := 56) X (by decide) (gsz hsz (by decide)) lay_30 (by omega) (by omega) (by decide) dX11_master_55 rfl ?_
        refine G.nm (fun M14 e15 => ?_)
        have IM14 : gI sz M14 := gI.set I (ra_30 a).1 (by omega) e15
        have CM14 : gC sz M14 := gC.set C (ra_30 a).2.1 e15
        refine g_iload_n (n := 57) X 0 dX11_master_56 rfl rfl rfl ?_
        exact hq _ _ _ _ dX11_master_57 ⟨by omega, IM14, CM14, (gFr.s gFr.rf e15 (ra_30 a).2.2 rfl)⟩
      · refine g_bipush (n := 35) X dX11_master_33 (by decide +kernel) rfl ?_
        exact hq _ _ _ _ dX11_master_35 ⟨by omega, I, C, gFr.rf⟩
  · refine g_iconst (n := 10) X dX11_master_9 rfl ?_
    exact hq _ _ _ _ dX11_master_10 ⟨by omega, I, C, gFr.rf⟩
theorem dX11_bind_0 : decode cX11_bind 0 = .ok (.aload_n 0, 1) := dc_42 (by decide +kernel)
theorem dX11_bind_1 : decode cX11_bind 1 = .ok (.iload_n 1, 1) := dc_27 (by decide +kernel)
theorem dX11_bind_2 : decode cX11_bind 2 = .ok (.invokevirtual 82, 3) := dc_182 0 82 (by decide +kernel)
theorem dX11_bind_5 : decode cX11_bind 5 = .ok (.ifCond .eq 12, 3) := dc_153 0 12 12 (by decide +kernel)
theorem dX11_bind_17 : decode cX11_bind 17 = .ok (.iconst (-1), 1) := dc_2 (by decide +kernel)
theorem dX11_bind_18 : decode cX11_bind 18 = .ok (.ireturn, 1) := dc_172 (by decide +kernel)
theorem dX11_bind_8 : decode cX11_bind 8 = .ok (.iload_n 2, 1) := dc_28 (by decide +kernel)
theorem dX11_bind_9 : decode cX11_bind 9 = .ok (.iconst 0, 1) := dc_3 (by decide +kernel)
theorem dX11_bind_10 : decode cX11_bind 10 = .ok (.iconst 3, 1) := dc_6 (by decide +kernel)
theorem dX11_bind_11 : decode cX11_bind 11 = .ok (.invokestatic 62, 3) := dc_184 0 62 (by decide +kernel)
theorem dX11_bind_14 : decode cX11_bind 14 = .ok (.ifCond .ne 5, 3) := dc_154 0 5 5 (by decide +kernel)
theorem dX11_bind_19 : decode cX11_bind 19 = .ok (.aload_n 0, 1) := dc_42 (by decide +kernel)
theorem dX11_bind_20 : decode cX11_bind 20 = .ok (.getfield 10, 3) := dc_180 0 10 (by decide +kernel)
theorem dX11_bind_23 : decode cX11_bind 23 = .ok (.getfield 89, 3) := dc_180 0 89 (by decide +kernel)
theorem dX11_bind_26 : decode cX11_bind 26 = .ok (.iload_n 1, 1) := dc_27 (by decide +kernel)
theorem dX11_bind_27 : decode cX11_bind 27 = .ok (.aaload, 1) := dc_50 (by decide +kernel)
theorem dX11_bind_28 : decode cX11_bind 28 = .ok (.astore_n 3, 1) := dc_78 (by decide +kernel)
theorem dX11_bind_29 : decode cX11_bind 29 = .ok (.aload_n 0, 1) := dc_42 (by decide +kernel)
theorem dX11_bind_30 : decode cX11_bind 30 = .ok (.getfield 10, 3) := dc_180 0 10 (by decide +kernel)
theorem dX11_bind_33 : decode cX11_bind 33 = .ok (.iload_n 2, 1) := dc_28 (by decide +kernel)
theorem dX11_bind_34 : decode cX11_bind 34 = .ok (.invokevirtual 355, 3) := dc_182 1 99 (by decide +kernel)
theorem dX11_bind_37 : decode cX11_bind 37 = .ok (.istore 4, 2) := dc_54 4 (by decide +kernel)
theorem dX11_bind_39 : decode cX11_bind 39 = .ok (.aload_n 3, 1) := dc_45 (by decide +kernel)
theorem dX11_bind_40 : decode cX11_bind 40 = .ok (.invokevirtual 243, 3) := dc_182 0 243 (by decide +kernel)
theorem dX11_bind_43 : decode cX11_bind 43 = .ok (.ifCond .ne 12, 3) := dc_154 0 12 12 (by decide +kernel)
theorem dX11_bind_55 : decode cX11_bind 55 = .ok (.iconst 1, 1) := dc_4 (by decide +kernel)
theorem dX11_bind_56 : decode cX11_bind 56 = .ok (.goto 4, 3) := dc_167 0 4 4 (by decide +kernel)
theorem dX11_bind_46 : decode cX11_bind 46 = .ok (.aload_n 3, 1) := dc_45 (by decide +kernel)
theorem dX11_bind_47 : decode cX11_bind 47 = .ok (.getfield 114, 3) := dc_180 0 114 (by decide +kernel)
theorem dX11_bind_50 : decode cX11_bind 50 = .ok (.bipush 6, 2) := dc_16 6 6 (by decide +kernel)
theorem dX11_bind_52 : decode cX11_bind 52 = .ok (.if_icmp .ne 7, 3) := dc_160 0 7 7 (by decide +kernel)
theorem dX11_bind_59 : decode cX11_bind 59 = .ok (.iconst 0, 1) := dc_3 (by decide +kernel)
theorem dX11_bind_60 : decode cX11_bind 60 = .ok (.istore 5, 2) := dc_54 5 (by decide +kernel)
theorem dX11_bind_62 : decode cX11_bind 62 = .ok (.aload_n 3, 1) := dc_45 (by decide +kernel)
theorem dX11_bind_63 : decode cX11_bind 63 = .ok (.aload_n 0, 1) := dc_42 (by decide +kernel)
theorem dX11_bind_64 : decode cX11_bind 64 = .ok (.getfield 10, 3) := dc_180 0 10 (by decide +kernel)
theorem dX11_bind_67 : decode cX11_bind 67 = .ok (.getfield 85, 3) := dc_180 0 85 (by decide +kernel)
theorem dX11_bind_70 : decode cX11_bind 70 = .ok (.invokevirtual 361, 3) := dc_182 1 105 (by decide +kernel)
theorem kw_5_121 : (Jvm.Cond.methodLink "ParishUnion" (361 : Nat) ({ cls := "ParishUnion$Person", name := "ageIn", desc := "(I)I" } : Jvm.MethodName)) ∈ gT := gT_of (tb_5 _ (List.mem_of_getElem? (i := 121) rfl)) rfl
theorem dX11_bind_73 : decode cX11_bind 73 = .ok (.aload_n 0, 1) := dc_42 (by decide +kernel)
theorem dX11_bind_74 : decode cX11_bind 74 = .ok (.getfield 10, 3) := dc_180 0 10 (by decide +kernel)
theorem dX11_bind_77 : decode cX11_bind 77 = .ok (.iconst 4, 1) := dc_7 (by decide +kernel)
theorem dX11_bind_78 : decode cX11_bind 78 = .ok (.aload_n 0, 1) := dc_42 (by decide +kernel)
theorem dX11_bind_79 : decode cX11_bind 79 = .ok (.getfield 10, 3) := dc_180 0 10 (by decide +kernel)
theorem dX11_bind_82 : decode cX11_bind 82 = .ok (.getfield 85, 3) := dc_180 0 85 (by decide +kernel)
theorem dX11_bind_85 : decode cX11_bind 85 = .ok (.invokevirtual 225, 3) := dc_182 0 225 (by decide +kernel)
theorem dX11_bind_88 : decode cX11_bind 88 = .ok (.if_icmp .ge 7, 3) := dc_162 0 7 7 (by decide +kernel)
theorem dX11_bind_95 : decode cX11_bind 95 = .ok (.iconst 0, 1) := dc_3 (by decide +kernel)
theorem dX11_bind_96 : decode cX11_bind 96 = .ok (.istore 6, 2) := dc_54 6 (by decide +kernel)
theorem dX11_bind_98 : decode cX11_bind 98 = .ok (.iload 5, 2) := dc_21 5 (by decide +kernel)
theorem dX11_bind_100 : decode cX11_bind 100 = .ok (.ifCond .eq 22, 3) := dc_153 0 22 22 (by decide +kernel)
theorem dX11_bind_122 : decode cX11_bind 122 = .ok (.bipush (-3), 2) := dc_16 253 (-3) (by decide +kernel)
theorem dX11_bind_124 : decode cX11_bind 124 = .ok (.ireturn, 1) := dc_172 (by decide +kernel)
theorem dX11_bind_103 : decode cX11_bind 103 = .ok (.iload 6, 2) := dc_21 6 (by decide +kernel)
theorem dX11_bind_105 : decode cX11_bind 105 = .ok (.ifCond .eq 17, 3) := dc_153 0 17 17 (by decide +kernel)
theorem dX11_bind_91 : decode cX11_bind 91 = .ok (.iconst 1, 1) := dc_4 (by decide +kernel)
theorem dX11_bind_92 : decode cX11_bind 92 = .ok (.goto 4, 3) := dc_167 0 4 4 (by decide +kernel)
theorem dX11_bind_108 : decode cX11_bind 108 = .ok (.iload 4, 2) := dc_21 4 (by decide +kernel)
theorem dX11_bind_110 : decode cX11_bind 110 = .ok (.aload_n 0, 1) := dc_42 (by decide +kernel)
theorem dX11_bind_111 : decode cX11_bind 111 = .ok (.getfield 10, 3) := dc_180 0 10 (by decide +kernel)
theorem dX11_bind_114 : decode cX11_bind 114 = .ok (.getfield 358, 3) := dc_180 1 102 (by decide +kernel)
theorem dX11_bind_117 : decode cX11_bind 117 = .ok (.iload_n 2, 1) := dc_28 (by decide +kernel)
theorem dX11_bind_118 : decode cX11_bind 118 = .ok (.iaload, 1) := dc_46 (by decide +kernel)
theorem dX11_bind_119 : decode cX11_bind 119 = .ok (.if_icmp .lt 6, 3) := dc_161 0 6 6 (by decide +kernel)
theorem dX11_bind_125 : decode cX11_bind 125 = .ok (.aload_n 3, 1) := dc_45 (by decide +kernel)
theorem dX11_bind_126 : decode cX11_bind 126 = .ok (.bipush 7, 2) := dc_16 7 7 (by decide +kernel)
theorem dX11_bind_128 : decode cX11_bind 128 = .ok (.invokevirtual 364, 3) := dc_182 1 108 (by decide +kernel)
theorem kw_5_122 : (Jvm.Cond.methodLink "ParishUnion" (364 : Nat) ({ cls := "ParishUnion$Person", name := "goTo", desc := "(I)V" } : Jvm.MethodName)) ∈ gT := gT_of (tb_5 _ (List.mem_of_getElem? (i := 122) rfl)) rfl
theorem dX11_bind_131 : decode cX11_bind 131 = .ok (.aload_n 3, 1) := dc_45 (by decide +kernel)
theorem dX11_bind_132 : decode cX11_bind 132 = .ok (.iload_n 2, 1) := dc_28 (by decide +kernel)
theorem dX11_bind_133 : decode cX11_bind 133 = .ok (.putfield 126, 3) := dc_181 0 126 (by decide +kernel)
theorem dX11_bind_136 : decode cX11_bind 136 = .ok (.iload 4, 2) := dc_21 4 (by decide +kernel)
theorem dX11_bind_138 : decode cX11_bind 138 = .ok (.iconst 1, 1) := dc_4 (by decide +kernel)
theorem dX11_bind_139 : decode cX11_bind 139 = .ok (.iadd, 1) := dc_96 (by decide +kernel)
theorem dX11_bind_140 : decode cX11_bind 140 = .ok (.ireturn, 1) := dc_172 (by decide +kernel)
abbrev R_X11_bind : Room := { frames := 2, cells := 0, slots := 0, locals := 48 }
set_option maxRecDepth 100000 in
set_option maxHeartbeats 4000000 in
theorem s_X11_bind {l : Launch} {n0 : Nat} {D : va_G} {cA : Nat → ClassId} {M : gM} (a : Int) (r_a : -2147483648 ≤ a ∧ a ≤ 2147483647) (b : Int) (r_b : -2147483648 ≤ b ∧ b ≤ 2147483647) {sz : Nat} (hsz : 206 ≤ sz) (I : gI sz M) (C : gC sz M)   : Met l yX11_bind (gWsOf yX11_bind cX11_bind 7 (Option.some Jvm.ClassFile.FieldType.int)) R_X11_bind (gPc n0 D cA [gA n0 0, gJ a, gJ b] M sz) (gQi n0 D cA sz (fun z M1 => (-2147483647 ≤ z ∧ z ≤ 2147483647) ∧ gI sz M1 ∧ gC sz M1 ∧ gFr 16 M M1)) 0 0 (fun q => n0 ≤ q) := by
  refine gMetI [gA n0 0, gJ a, gJ b] (by decide) (Nat.le_of_ble_eq_true rfl) ⟨rfl, rfl⟩ ?_
  intro p e s m args below meth cd Q X hq
  have X : gCx p s m args meth cd n0 D cA "ParishUnion" cX11_bind 7 := X
  show G p l e R_X11_bind s m args below meth cd n0 D cA 7 Q 0 0 M sz 0 [(0, gA n0 0), (1, gJ a), (2, gJ b)] []
  refine g_aload_n (n := 1) X 0 dX11_bind_0 rfl rfl rfl ?_
  refine g_iload_n (n := 2) X 1 dX11_bind_1 rfl rfl rfl ?_
  refine g_callVi (n := 5) (As := [gJ a]) (rest := []) (cs1 := 0) (ss1 := 0) X (s_X11_isPerson a (by omega) hsz I C ) okX11_isPerson kw_3_56 ⟨kw_3_58, kw_0_0⟩ ⟨rfl, rfl⟩ ⟨Nat.le_of_ble_eq_true rfl, Nat.le_of_ble_eq_true rfl⟩ rfl (by decide) (gsz hsz (by decide)) lay_0 rfl rfl (Nat.le_of_ble_eq_true rfl) ⟨Nat.le_of_ble_eq_true rfl, Nat.le_of_ble_eq_true rfl⟩ rfl rfl dX11_bind_2 rfl (fun v1 M2 P3 => ?_)
  obtain ⟨rfl, rv1, xv1⟩ := P3
  refine g_if_eq (n := 8) (tgt := 17) X dX11_bind_5 (by decide) (by omega) rfl (fun c4 => ?_) (fun c4 => ?_)
  · refine g_iconst (n := 18) X dX11_bind_17 rfl ?_
    exact hq _ _ _ _ dX11_bind_18 ⟨by omega, I, C, gFr.rf⟩
  · refine g_iload_n (n := 9) X 2 dX11_bind_8 rfl rfl rfl ?_
    refine g_iconst (n := 10) X dX11_bind_9 rfl ?_
    refine g_iconst (n := 11) X dX11_bind_10 rfl ?_
    refine g_callSi (n := 14) (As := [gJ b, gJ 0, gJ 3]) (rest := []) (cs1 := 0) (ss1 := 0) X (s_X11_within b (by omega) 0 (by omega) 3 (by omega) hsz I C ) okX11_within kw_3_29 kw_3_30 ⟨rfl, rfl⟩ ⟨Nat.le_of_ble_eq_true rfl, Nat.le_of_ble_eq_true rfl⟩ rfl rfl (Nat.le_of_ble_eq_true rfl) ⟨Nat.le_of_ble_eq_true rfl, Nat.le_of_ble_eq_true rfl⟩ rfl rfl dX11_bind_11 rfl (fun v5 M6 P7 => ?_)
    obtain ⟨rfl, rv5, xv5⟩ := P7
    refine g_if_ne (n := 17) (tgt := 19) X dX11_bind_14 (by decide) (by omega) rfl (fun c8 => ?_) (fun c8 => ?_)
    · refine g_aload_n (n := 20) X 0 dX11_bind_19 rfl rfl rfl ?_
      refine gg_11_0 (n := 23) (z := 1) X (by decide) (gsz hsz (by decide)) lay_0 kw_2_231 dX11_bind_20 rfl (rf_0_0 I (gsz hsz (by decide))) (by decide) ?_
      refine gg_9_1 (n := 26) (z := 5) X (by decide) (gsz hsz (by decide)) lay_1 kw_2_108 dX11_bind_23 rfl (rf_1_1 I (gsz hsz (by decide))) (by decide) ?_
      refine g_iload_n (n := 27) X 1 dX11_bind_26 rfl rfl rfl ?_
      obtain ⟨o9, ho9, ro9⟩ : ∃ o : Int, o = 31 + a ∧ (31 ≤ o ∧ o < 47) := ⟨_, rfl, by omega⟩
      refine g_aald6 (n := 28) (t := o9) X (by decide) (gsz hsz (by decide)) lay_5 (by omega) (by omega) (by decide) (gA5 I hsz (by omega) (by omega) (by omega)) (by omega) dX11_bind_27 rfl ?_
      refine g_astore_n (n := 29) (L' := [(3, gA n0 o9), (0, gA n0 0), (1, gJ a), (2, gJ b)]) X dX11_bind_28 rfl (by decide) rfl rfl ?_
      refine g_aload_n (n := 30) X 1 dX11_bind_29 rfl rfl rfl ?_
      refine gg_11_0 (n := 33) (z := 1) X (by decide) (gsz hsz (by decide)) lay_0 kw_2_231 dX11_bind_30 rfl (rf_0_0 I (gsz hsz (by decide))) (by decide) ?_
      refine g_iload_n (n := 34) X 3 dX11_bind_33 rfl rfl rfl ?_
      refine g_callVi (n := 37) (As := [gJ b]) (rest := []) (cs1 := 0) (ss1 := 0) X (s_X9_boundTo b (by omega) hsz I C ) okX9_boundTo kw_5_113 ⟨kw_5_114, kw_5_115⟩ ⟨rfl, rfl⟩ ⟨Nat.le_of_ble_eq_true rfl, Nat.le_of_ble_eq_true rfl⟩ rfl (by decide) (gsz hsz (by decide)) lay_1 rfl rfl (Nat.le_of_ble_eq_true rfl) ⟨Nat.le_of_ble_eq_true rfl, Nat.le_of_ble_eq_true rfl⟩ rfl rfl dX11_bind_34 rfl (fun v10 M11 P12 => ?_)
      obtain ⟨rfl, rv10⟩ := P12
      refine g_istore (n := 39) (L' := [(4, gJ v10), (3, gA n0 o9), (0, gA n0 0), (1, gJ a), (2, gJ b)]) X dX11_bind_37 (by decide) rfl rfl ?_
      refine g_aload_n (n := 40) X 1 dX11_bind_39 rfl rfl rfl ?_
      refine g_callVi (n := 43) (As := []) (rest := []) (cs1 := 0) (ss1 := 0) X (s_X6_isAtParish o9 ro9 hsz I C ) okX6_isAtParish kw_4_130 ⟨kw_4_122, kw_4_123⟩ ⟨rfl, rfl⟩ ⟨Nat.le_of_ble_eq_true rfl, Nat.le_of_ble_eq_true rfl⟩ rfl (Po0 ro9) (Posz hsz ro9) (lay2_P ro9) rfl rfl (Nat.le_of_ble_eq_true rfl) ⟨Nat.le_of_ble_eq_true rfl, Nat.le_of_ble_eq_true rfl⟩ rfl rfl dX11_bind_40 rfl (fun v13 M14 P15 => ?_)
      obtain ⟨rfl, rv13, xv13⟩ := P15
      obtain ⟨v16, hv16, rv16⟩ := gRd I (Po0 ro9) (Posz hsz ro9) (rP_5 ro9).1
      have j19 : ∀ (v20 : Int) , (0 ≤ v20 ∧ v20 ≤ 1) → G p l e R_X11_bind s m args below meth cd n0 D cA 7 Q 0 0 M sz 60 [(0, gA n0 0), (2, gJ b), (3, gA n0 o9), (4, gJ v10)] [gJ v20] := by
        intro v20 rv20
        refine g_istore (n := 62) (L' := [(5, gJ v20), (0, gA n0 0), (2, gJ b), (3, gA n0 o9), (4, gJ v10)]) X dX11_bind_60 (by decide) rfl rfl ?_
        refine g_aload_n (n := 63) X 3 dX11_bind_62 rfl rfl rfl ?_
        refine g_aload_n (n := 64) X 1 dX11_bind_63 rfl rfl rfl ?_
        refine gg_11_0 (n := 67) (z := 1) X (by decide) (gsz hsz (by decide)) lay_0 kw_2_231 dX11_bind_64 rfl (rf_0_0 I (gsz hsz (by decide))) (by decide) ?_
        obtain ⟨v21, hv21, rv21⟩ := gRd I (by decide) (gsz hsz (by decide)) rc_1_15.1
        refine gg_9_15 (n := 70) (z := v21) X (by decide) (gsz hsz (by decide)) lay_1 kw_2_139 dX11_bind_67 rfl hv21 ?_
        refine g_callVi (n := 73) (As := [gJ v21]) (rest := []) (cs1 := 0) (ss1 := 0) X (s_X6_ageIn o9 ro9 v21 (by omega) hsz I C ) okX6_ageIn kw_5_121 ⟨kw_4_114, kw_4_115⟩ ⟨rfl, rfl⟩ ⟨Nat.le_of_ble_eq_true rfl, Nat.le_of_ble_eq_true rfl⟩ rfl (Po0 ro9) (Posz hsz ro9) (lay2_P ro9) rfl rfl (Nat.le_of_ble_eq_true rfl) ⟨Nat.le_of_ble_eq_true rfl, Nat.le_of_ble_eq_true rfl⟩ rfl rfl dX11_bind_70 rfl (fun v22 M23 P24 => ?_)
        obtain ⟨rfl, rv22⟩ := P24
        refine g_aload_n (n := 74) X 1 dX11_bind_73 rfl rfl rfl ?_
        refine gg_11_0 (n := 77) (z := 1) X (by decide) (gsz hsz (by decide)) lay_0 kw_2_231 dX11_bind_74 rfl (rf_0_0 I (gsz hsz (by decide))) (by decide) ?_
        refine g_iconst (n := 78) X dX11_bind_77 rfl ?_
        refine g_aload_n (n := 79) X 1 dX11_bind_78 rfl rfl rfl ?_
        refine gg_11_0 (n := 82) (z := 1) X (by decide) (gsz hsz (by decide)) lay_0 kw_2_231 dX11_bind_79 rfl (rf_0_0 I (gsz hsz (by decide))) (by decide) ?_
        refine gg_9_15 (n := 85) (z := v21) X (by decide) (gsz hsz (by decide)) lay_1 kw_2_139 dX11_bind_82 rfl hv21 ?_
        refine g_callVi (n := 88) (As := [gJ 4, gJ v21]) (rest := [gJ v22]) (cs1 := 0) (ss1 := 0) X (s_X9_law 4 (by omega) v21 (by omega) hsz I C ) okX9_law kw_4_91 ⟨kw_3_138, kw_3_139⟩ ⟨rfl, rfl⟩ ⟨Nat.le_of_ble_eq_true rfl, Nat.le_of_ble_eq_true rfl⟩ rfl (by decide) (gsz hsz (by decide)) lay_1 rfl rfl (Nat.le_of_ble_eq_true rfl) ⟨Nat.le_of_ble_eq_true rfl, Nat.le_of_ble_eq_true rfl⟩ rfl rfl dX11_bind_85 rfl (fun v25 M26 P27 => ?_)
        obtain ⟨rfl, rv25⟩ := P27
        refine g_icmp_ge (n := 91) (tgt := 95) X dX11_bind_88 (by decide) (by omega) (by omega) rfl (fun c28 => ?_) (fun c28 => ?_)
        · refine g_iconst (n := 96) X dX11_bind_95 rfl ?_
          refine g_istore (n := 98) (L' := [(6, gJ 0), (5, gJ v20), (0, gA n0 0), (2, gJ b), (3, gA n0 o9), (4, gJ v10)]) X dX11_bind_96 (by decide) rfl rfl ?_
          refine g_iload (n := 100) X 1 dX11_bind_98 rfl rfl ?_
          refine g_if_eq (n := 103) (tgt := 122) X dX11_bind_100 (by decide) (by omega) rfl (fun c29 => ?_) (fun c29 => ?_)
          · refine g_bipush (n := 124) X dX11_bind_122 (by decide +kernel) rfl ?_
            exact hq _ _ _ _ dX11_bind_124 ⟨by omega, I, C, gFr.rf⟩
          · refine g_iload (n := 105) X 0 dX11_bind_103 rfl rfl ?_
            refine g_if_eq (n := 108) (tgt := 122) X dX11_bind_105 (by decide) (by omega) rfl (fun c30 => ?_) (fun c30 => by exfalso; omega)
            refine g_bipush (n := 124) X dX11_bind_122 (by decide +kernel) rfl ?_
            exact hq _ _ _ _ dX11_bind_124 ⟨by omega, I, C, gFr.rf⟩
        · refine g_iconst (n := 92) X dX11_bind_91 rfl ?_
          refine g_goto (tgt := 96) X dX11_bind_92 (by decide) ?_
          refine g_istore (n := 98) (L' := [(6, gJ 1), (5, gJ v20), (0, gA n0 0), (2, gJ b), (3, gA n0 o9), (4, gJ v10)]) X dX11_bind_96 (by decide) rfl rfl ?_
          refine g_iload (n := 100) X 1 dX11_bind_98 rfl rfl ?_
          refine g_if_eq (n := 103) (tgt := 122) X dX11_bind_100 (by decide) (by omega) rfl (fun c31 => ?_) (fun c31 => ?_)
          · refine g_bipush (n := 124) X dX11_bind_122 (by decide +kernel) rfl ?_
            exact hq _ _ _ _ dX11_bind_124 ⟨by omega, I, C, gFr.rf⟩
          · refine g_iload (n := 105) X 0 dX11_bind_103 rfl rfl ?_
            refine g_if_eq (n := 108) (tgt := 122) X dX11_bind_105 (by decide) (by omega) rfl (fun c32 => by exfalso; omega) (fun c32 => ?_)
            refine g_iload (n := 110) X 5 dX11_bind_108 rfl rfl ?_
            refine g_aload_n (n := 111) X 2 dX11_bind_110 rfl rfl rfl ?_
            refine gg_11_0 (n := 114) (z := 1) X (by decide) (gsz hsz (by decide)) lay_0 kw_2_231 dX11_bind_111 rfl (rf_0_0 I (gsz hsz (by decide))) (by decide) ?_
            refine gg_9_9 (n := 117) (z := 30) X (by decide) (gsz hsz (by decide)) lay_1 kw_2_125 dX11_bind_114 rfl (rf_1_9 I (gsz hsz (by decide))) (by decide) ?_
            refine g_iload_n (n := 118) X 3 dX11_bind_117 rfl rfl rfl ?_
            obtain ⟨v33, hv33, rv33⟩ := gRd I (by decide) (gsz hsz (by decide)) (ra_30 b).1
            refine g_iald2 (n := 119) (v := v33) X (by decide) (gsz hsz (by decide)) lay_30 (by omega) (by omega) (by decide) dX11_bind_118 rfl hv33 ?_
            refine g_icmp_lt (n := 122) (tgt := 125) X dX11_bind_119 (by decide) (by omega) (by omega) rfl (fun c34 => ?_) (fun c34 => ?_)
            · refine g_aload_n (n := 126) X 4 dX11_bind_125 rfl rfl rfl ?_
              refine g_bipush (n := 128) X dX11_bind_126 (by decide +kernel) rfl ?_
              refine g_callVv (n := 131) (As := [gJ 7]) (rest := []) (cs1 := 0) (ss1 := 0) X (s_X6_goTo o9 ro9 7 (by omega) hsz I C ) okX6_goTo kw_5_122 ⟨kw_3_65, kw_3_66⟩ ⟨rfl, rfl⟩ ⟨Nat.le_of_ble_eq_true rfl, Nat.le_of_ble_eq_true rfl⟩ rfl (Po0 ro9) (Posz hsz ro9) (lay2_P ro9) rfl rfl (Nat.le_of_ble_eq_true rfl) ⟨Nat.le_of_ble_eq_true rfl, Nat.le_of_ble_eq_true rfl⟩ rfl rfl dX11_bind_128 rfl (fun M36 P37 => ?_)
              obtain ⟨M38, e39, M40, e41, M42, e43, M44, e45, rfl⟩ := P37
              have IM38 : gI sz M38 := gI.set I (rP_5 ro9).1 (by omega) e39
              have CM38 : gC sz M38 := gC.at C (by omega) (by omega) e39
              have IM40 : gI sz M40 := gI.set IM38 (rP_8 ro9).1 (by omega) e41
              have IM42 : gI sz M42 := gI.set IM40 (rP_9 ro9).1 (by omega) e43
              have IM44 : gI sz M44 := gI.set IM42 (rP_10 ro9).1 (by omega) e45
              refine g_aload_n (n := 132) X 4 dX11_bind_131 rfl rfl rfl ?_
              refine g_iload_n (n := 133) X 3 dX11_bind_132 rfl rfl rfl ?_
              refine gp_6_9 (n := 136) X (Po0 ro9) (Posz hsz ro9) (lay2_P ro9) kw_1_207 dX11_bind_133 rfl ?_
              refine G.nm (fun M46 e47 => ?_)
              have IM46 : gI sz M46 := gI.set IM44 (rP_9 ro9).1 (by omega) e47
              refine g_iload (n := 138) X 5 dX11_bind_136 rfl rfl ?_
              refine g_iconst (n := 139) X dX11_bind_138 rfl ?_
              refine g_iadd (n := 140) (z := v10 + 1) X dX11_bind_139 (by omega) rfl ?_
              have CM46 : gC sz M46 := gC.pers CM38 ro9 (fun a b h => ((congrFun (congrFun e47 a) b).trans ((gset_ne (fun q => h q.1)).trans ((congrFun (congrFun e45 a) b).trans ((gset_ne (fun q => h q.1)).trans ((congrFun (congrFun e43 a) b).trans ((gset_ne (fun q => h q.1)).trans ((congrFun (congrFun e41 a) b).trans ((gset_ne (fun q => h q.1)).trans rfl))))))))) (by have q5 : M46 o9 5 = 7 := ((congrFun (congrFun e47 _) _).trans ((gset_ne (by omega)).trans ((congrFun (congrFun e45 _) _).trans ((gset_ne (by omega)).trans ((congrFun (congrFun e43 _) _).trans ((gset_ne (by omega)).trans ((congrFun (congrFun e41 _) _).trans ((gset_ne (by omega)).trans ((congrFun (congrFun e39 _) _).trans (gset_eq _ _ _ _)))))))))); have q8 : M46 o9 8 = (-1) := ((congrFun (congrFun e47 _) _).trans ((gset_ne (by omega)).trans ((congrFun (congrFun e45 _) _).trans ((gset_ne (by omega)).trans ((congrFun (congrFun e43 _) _).trans ((gset_ne (by omega)).trans ((congrFun (congrFun e41 _) _).trans (gset_eq _ _ _ _)))))))); have q10 : M46 o9 10 = (-1) := ((congrFun (congrFun e47 _) _).trans ((gset_ne (by omega)).trans ((congrFun (congrFun e45 _) _).trans (gset_eq _ _ _ _)))); omega)
              exact hq _ _ _ _ dX11_bind_140 ⟨by omega, IM46, CM46, (gFr.s (gFr.s (gFr.s (gFr.s (gFr.s gFr.rf e39 (rP_5 ro9).2.2 rfl) e41 (rP_8 ro9).2.2 rfl) e43 (rP_9 ro9).2.2 rfl) e45 (rP_10 ro9).2.2 rfl) e47 (rP_9 ro9).2.2 rfl)⟩
            · refine g_bipush (n := 124) X dX11_bind_122 (by decide +kernel) rfl ?_
              exact hq _ _ _ _ dX11_bind_124 ⟨by omega, I, C, gFr.rf⟩
      refine g_if_ne (n := 46) (tgt := 55) X dX11_bind_43 (by decide) (by omega) rfl (fun c17 => ?_) (fun c17 => ?_)
      · refine g_iconst (n := 56) X dX11_bind_55 rfl ?_
        refine g_goto (tgt := 60) X dX11_bind_56 (by decide) ?_
        refine G.sub (L' := [(0, gA n0 0), (2, gJ b), (3, gA n0 o9), (4, gJ v10)]) [2, 4, 1, 0] rfl ?_
        exact j19 1 (by omega)
      · refine g_aload_n (n := 47) X 1 dX11_bind_46 rfl rfl rfl ?_
        refine gg_6_5 (n := 50) (z := v16) X (Po0 ro9) (Posz hsz ro9) (lay2_P ro9) kw_1_193 dX11_bind_47 rfl hv16 ?_
        refine g_bipush (n := 52) X dX11_bind_50 (by decide +kernel) rfl ?_
        refine g_icmp_ne (n := 55) (tgt := 59) X dX11_bind_52 (by decide) (by omega) (by omega) rfl (fun c48 => ?_) (fun c48 => ?_)
        · refine g_iconst (n := 60) X dX11_bind_59 rfl ?_
          refine G.sub (L' := [(0, gA n0 0), (2, gJ b), (3, gA n0 o9), (4, gJ v10)]) [2, 4, 1, 0] rfl ?_
          exact j19 0 (by omega)
        · refine g_iconst (n := 56) X dX11_bind_55 rfl ?_
          refine g_goto (tgt := 60) X dX11_bind_56 (by decide) ?_
          refine G.sub (L' := [(0, gA n0 0), (2, gJ b), (3, gA n0 o9), (4, gJ v10)]) [2, 4, 1, 0] rfl ?_
          exact j19 1 (by omega)
    · refine g_iconst (n := 18) X dX11_bind_17 rfl ?_
      exact hq _ _ _ _ dX11_bind_18 ⟨by omega, I, C, gFr.rf⟩
theorem dX11_run_0 : decode cX11_run 0 = .ok (.aload_n 0, 1) := dc_42 (by decide +kernel)
theorem dX11_run_1 : decode cX11_run 1 = .ok (.iload_n 1, 1) := dc_27 (by decide +kernel)
theorem dX11_run_2 : decode cX11_run 2 = .ok (.invokevirtual 82, 3) := dc_182 0 82 (by decide +kernel)
theorem dX11_run_5 : decode cX11_run 5 = .ok (.ifCond .ne 5, 3) := dc_154 0 5 5 (by decide +kernel)
theorem dX11_run_10 : decode cX11_run 10 = .ok (.aload_n 0, 1) := dc_42 (by decide +kernel)
theorem dX11_run_11 : decode cX11_run 11 = .ok (.getfield 10, 3) := dc_180 0 10 (by decide +kernel)
theorem dX11_run_14 : decode cX11_run 14 = .ok (.getfield 89, 3) := dc_180 0 89 (by decide +kernel)
theorem dX11_run_17 : decode cX11_run 17 = .ok (.iload_n 1, 1) := dc_27 (by decide +kernel)
theorem dX11_run_18 : decode cX11_run 18 = .ok (.aaload, 1) := dc_50 (by decide +kernel)
theorem dX11_run_19 : decode cX11_run 19 = .ok (.astore_n 2, 1) := dc_77 (by decide +kernel)
theorem dX11_run_20 : decode cX11_run 20 = .ok (.aload_n 2, 1) := dc_44 (by decide +kernel)
theorem dX11_run_21 : decode cX11_run 21 = .ok (.getfield 114, 3) := dc_180 0 114 (by decide +kernel)
theorem dX11_run_24 : decode cX11_run 24 = .ok (.bipush 7, 2) := dc_16 7 7 (by decide +kernel)
theorem dX11_run_26 : decode cX11_run 26 = .ok (.if_icmp .eq 6, 3) := dc_159 0 6 6 (by decide +kernel)
theorem dX11_run_32 : decode cX11_run 32 = .ok (.aload_n 2, 1) := dc_44 (by decide +kernel)
theorem dX11_run_33 : decode cX11_run 33 = .ok (.aload_n 2, 1) := dc_44 (by decide +kernel)
theorem dX11_run_34 : decode cX11_run 34 = .ok (.getfield 105, 3) := dc_180 0 105 (by decide +kernel)
theorem dX11_run_37 : decode cX11_run 37 = .ok (.invokevirtual 364, 3) := dc_182 1 108 (by decide +kernel)
theorem dX11_run_40 : decode cX11_run 40 = .ok (.aload_n 2, 1) := dc_44 (by decide +kernel)
theorem dX11_run_41 : decode cX11_run 41 = .ok (.getfield 114, 3) := dc_180 0 114 (by decide +kernel)
theorem dX11_run_44 : decode cX11_run 44 = .ok (.ireturn, 1) := dc_172 (by decide +kernel)
theorem dX11_run_29 : decode cX11_run 29 = .ok (.bipush (-3), 2) := dc_16 253 (-3) (by decide +kernel)
theorem dX11_run_31 : decode cX11_run 31 = .ok (.ireturn, 1) := dc_172 (by decide +kernel)
theorem dX11_run_8 : decode cX11_run 8 = .ok (.iconst (-1), 1) := dc_2 (by decide +kernel)
theorem dX11_run_9 : decode cX11_run 9 = .ok (.ireturn, 1) := dc_172 (by decide +kernel)
abbrev R_X11_run : Room := { frames := 2, cells := 0, slots := 0, locals := 43 }
set_option maxRecDepth 100000 in
set_option maxHeartbeats 4000000 in
theorem s_X11_run {l : Launch} {n0 : Nat} {D : va_G} {cA : Nat → ClassId} {M : gM} (a : Int) (r_a : -2147483648 ≤ a ∧ a ≤ 2147483647) {sz : Nat} (hsz : 206 ≤ sz) (I : gI sz M) (C : gC sz M)   : Met l yX11_run (gWsOf yX11_run cX11_run 3 (Option.some Jvm.ClassFile.FieldType.int)) R_X11_run (gPc n0 D cA [gA n0 0, gJ a] M sz) (gQi n0 D cA sz (fun z M1 => (-3 ≤ z ∧ z ≤ 5) ∧ gI sz M1 ∧ gC sz M1 ∧ gFr 16 M M1)) 0 0 (fun q => n0 ≤ q) := by
  refine gMetI [gA n0 0, gJ a] (by decide) (Nat.le_of_ble_eq_true rfl) ⟨rfl, rfl⟩ ?_
  intro p e s m args below meth cd Q X hq
  have X : gCx p s m args meth cd n0 D cA "ParishUnion" cX11_run 3 := X
  show G p l e R_X11_run s m args below meth cd n0 D cA 3 Q 0 0 M sz 0 [(0, gA n0 0), (1, gJ a)] []
  refine g_aload_n (n := 1) X 0 dX11_run_0 rfl rfl rfl ?_
  refine g_iload_n (n := 2) X 1 dX11_run_1 rfl rfl rfl ?_
  refine g_callVi (n := 5) (As := [gJ a]) (rest := []) (cs1 := 0) (ss1 := 0) X (s_X11_isPerson a (by omega) hsz I C ) okX11_isPerson kw_3_56 ⟨kw_3_58, kw_0_0⟩ ⟨rfl, rfl⟩ ⟨Nat.le_of_ble_eq_true rfl, Nat.le_of_ble_eq_true rfl⟩ rfl (by decide) (gsz hsz (by decide)) lay_0 rfl rfl (Nat.le_of_ble_eq_true rfl) ⟨Nat.le_of_ble_eq_true rfl, Nat.le_of_ble_eq_true rfl⟩ rfl rfl dX11_run_2 rfl (fun v1 M2 P3 => ?_)
  obtain ⟨rfl, rv1, xv1⟩ := P3
  refine g_if_ne (n := 8) (tgt := 10) X dX11_run_5 (by decide) (by omega) rfl (fun c4 => ?_) (fun c4 => ?_)
  · refine g_aload_n (n := 11) X 0 dX11_run_10 rfl rfl rfl ?_
    refine gg_11_0 (n := 14) (z := 1) X (by decide) (gsz hsz (by decide)) lay_0 kw_2_231 dX11_run_11 rfl (rf_0_0 I (gsz hsz (by decide))) (by decide) ?_
    refine gg_9_1 (n := 17) (z := 5) X (by decide) (gsz hsz (by decide)) lay_1 kw_2_108 dX11_run_14 rfl (rf_1_1 I (gsz hsz (by decide))) (by decide) ?_
    refine g_iload_n (n := 18) X 1 dX11_run_17 rfl rfl rfl ?_
    obtain ⟨o5, ho5, ro5⟩ : ∃ o : Int, o = 31 + a ∧ (31 ≤ o ∧ o < 47) := ⟨_, rfl, by omega⟩
    refine g_aald6 (n := 19) (t := o5) X (by decide) (gsz hsz (by decide)) lay_5 (by omega) (by omega) (by decide) (gA5 I hsz (by omega) (by omega) (by omega)) (by omega) dX11_run_18 rfl ?_
    refine g_astore_n (n := 20) (L' := [(2, gA n0 o5), (0, gA n0 0), (1, gJ a)]) X dX11_run_19 rfl (by decide) rfl rfl ?_
    refine g_aload_n (n := 21) X 0 dX11_run_20 rfl rfl rfl ?_
    obtain ⟨v6, hv6, rv6⟩ := gRd I (Po0 ro5) (Posz hsz ro5) (rP_5 ro5).1
    refine gg_6_5 (n := 24) (z := v6) X (Po0 ro5) (Posz hsz ro5) (lay2_P ro5) kw_1_193 dX11_run_21 rfl hv6 ?_
    refine g_bipush (n := 26) X dX11_run_24 (by decide +kernel) rfl ?_
    refine g_icmp_eq (n := 29) (tgt := 32) X dX11_run_26 (by decide) (by omega) (by omega) rfl (fun c7 => ?_) (fun c7 => ?_)
    · refine g_aload_n (n := 33) X 0 dX11_run_32 rfl rfl rfl ?_
      refine g_aload_n (n := 34) X 0 dX11_run_33 rfl rfl rfl ?_
      obtain ⟨v8, hv8, rv8⟩ := gRd I (Po0 ro5) (Posz hsz ro5) (rP_2 ro5).1
      refine gg_6_2 (n := 37) (z := v8) X (Po0 ro5) (Posz hsz ro5) (lay2_P ro5) kw_1_183 dX11_run_34 rfl hv8 ?_
      refine g_callVv (n := 40) (As := [gJ v8]) (rest := []) (cs1 := 0) (ss1 := 0) X (s_X6_goTo o5 ro5 v8 (by omega) hsz I C ) okX6_goTo kw_5_122 ⟨kw_3_65, kw_3_66⟩ ⟨rfl, rfl⟩ ⟨Nat.le_of_ble_eq_true rfl, Nat.le_of_ble_eq_true rfl⟩ rfl (Po0 ro5) (Posz hsz ro5) (lay2_P ro5) rfl rfl (Nat.le_of_ble_eq_true rfl) ⟨Nat.le_of_ble_eq_true rfl, Nat.le_of_ble_eq_true rfl⟩ rfl rfl dX11_run_37 rfl (fun M10 P11 => ?_)
      obtain ⟨M12, e13, M14, e15, M16, e17, M18, e19, rfl⟩ := P11
      have IM12 : gI sz M12 := gI.set I (rP_5 ro5).1 (by omega) e13
      have CM12 : gC sz M12 := gC.at C (by omega) (by omega) e13
      have IM14 : gI sz M14 := gI.set IM12 (rP_8 ro5).1 (by omega) e15
      have IM16 : gI sz M16 := gI.set IM14 (rP_9 ro5).1 (by omega) e17
      have IM18 : gI sz M18 := gI.set IM16 (rP_10 ro5).1 (by omega) e19
      refine g_aload_n (n := 41) X 0 dX11_run_40 rfl rfl rfl ?_
      refine gg_6_5 (n := 44) (z := v8) X (Po0 ro5) (Posz hsz ro5) (lay2_P ro5) kw_1_193 dX11_run_41 rfl ((congrFun (congrFun e19 _) _).trans ((gset_ne (by omega)).trans ((congrFun (congrFun e17 _) _).trans ((gset_ne (by omega)).trans ((congrFun (congrFun e15 _) _).trans ((gset_ne (by omega)).trans ((congrFun (congrFun e13 _) _).trans (gset_eq _ _ _ _)))))))) ?_
      have CM18 : gC sz M18 := gC.pers CM12 ro5 (fun a b h => ((congrFun (congrFun e19 a) b).trans ((gset_ne (fun q => h q.1)).trans ((congrFun (congrFun e17 a) b).trans ((gset_ne (fun q => h q.1)).trans ((congrFun (congrFun e15 a) b).trans ((gset_ne (fun q => h q.1)).trans rfl))))))) (by have q5 : M18 o5 5 = v8 := ((congrFun (congrFun e19 _) _).trans ((gset_ne (by omega)).trans ((congrFun (congrFun e17 _) _).trans ((gset_ne (by omega)).trans ((congrFun (congrFun e15 _) _).trans ((gset_ne (by omega)).trans ((congrFun (congrFun e13 _) _).trans (gset_eq _ _ _ _)))))))); have q8 : M18 o5 8 = (-1) := ((congrFun (congrFun e19 _) _).trans ((gset_ne (by omega)).trans ((congrFun (congrFun e17 _) _).trans ((gset_ne (by omega)).trans ((congrFun (congrFun e15 _) _).trans (gset_eq _ _ _ _)))))); have q10 : M18 o5 10 = (-1) := ((congrFun (congrFun e19 _) _).trans (gset_eq _ _ _ _)); omega)
      exact hq _ _ _ _ dX11_run_44 ⟨by omega, IM18, CM18, (gFr.s (gFr.s (gFr.s (gFr.s gFr.rf e13 (rP_5 ro5).2.2 rfl) e15 (rP_8 ro5).2.2 rfl) e17 (rP_9 ro5).2.2 rfl) e19 (rP_10 ro5).2.2 rfl)⟩
    · refine g_bipush (n := 31) X dX11_run_29 (by decide +kernel) rfl ?_
      exact hq _ _ _ _ dX11_run_31 ⟨by omega, I, C, gFr.rf⟩
  · refine g_iconst (n := 9) X dX11_run_8 rfl ?_
    exact hq _ _ _ _ dX11_run_9 ⟨by omega, I, C, gFr.rf⟩
theorem dX11_choice_0 : decode cX11_choice 0 = .ok (.iload_n 1, 1) := dc_27 (by decide +kernel)
theorem dX11_choice_1 : decode cX11_choice 1 = .ok (.iconst 0, 1) := dc_3 (by decide +kernel)
theorem dX11_choice_2 : decode cX11_choice 2 = .ok (.iconst 4, 1) := dc_7 (by decide +kernel)
theorem dX11_choice_3 : decode cX11_choice 3 = .ok (.invokestatic 62, 3) := dc_184 0 62 (by decide +kernel)
theorem dX11_choice_6 : decode cX11_choice 6 = .ok (.ifCond .ne 5, 3) := dc_154 0 5 5 (by decide +kernel)
theorem dX11_choice_11 : decode cX11_choice 11 = .ok (.iload_n 2, 1) := dc_28 (by decide +kernel)
theorem dX11_choice_12 : decode cX11_choice 12 = .ok (.iconst 1, 1) := dc_4 (by decide +kernel)
theorem dX11_choice_13 : decode cX11_choice 13 = .ok (.bipush 99, 2) := dc_16 99 99 (by decide +kernel)
theorem dX11_choice_15 : decode cX11_choice 15 = .ok (.invokestatic 62, 3) := dc_184 0 62 (by decide +kernel)
theorem dX11_choice_18 : decode cX11_choice 18 = .ok (.ifCond .eq 14, 3) := dc_153 0 14 14 (by decide +kernel)
theorem dX11_choice_32 : decode cX11_choice 32 = .ok (.bipush (-2), 2) := dc_16 254 (-2) (by decide +kernel)
theorem dX11_choice_34 : decode cX11_choice 34 = .ok (.ireturn, 1) := dc_172 (by decide +kernel)
theorem dX11_choice_21 : decode cX11_choice 21 = .ok (.iload_n 3, 1) := dc_29 (by decide +kernel)
theorem dX11_choice_22 : decode cX11_choice 22 = .ok (.iconst 0, 1) := dc_3 (by decide +kernel)
theorem dX11_choice_23 : decode cX11_choice 23 = .ok (.sipush 999, 3) := dc_17 3 231 999 (by decide +kernel)
theorem dX11_choice_26 : decode cX11_choice 26 = .ok (.invokestatic 62, 3) := dc_184 0 62 (by decide +kernel)
theorem dX11_choice_29 : decode cX11_choice 29 = .ok (.ifCond .ne 6, 3) := dc_154 0 6 6 (by decide +kernel)
theorem dX11_choice_35 : decode cX11_choice 35 = .ok (.aload_n 0, 1) := dc_42 (by decide +kernel)
theorem dX11_choice_36 : decode cX11_choice 36 = .ok (.getfield 10, 3) := dc_180 0 10 (by decide +kernel)
theorem dX11_choice_39 : decode cX11_choice 39 = .ok (.getfield 279, 3) := dc_180 1 23 (by decide +kernel)
theorem dX11_choice_42 : decode cX11_choice 42 = .ok (.getfield 367, 3) := dc_180 1 111 (by decide +kernel)
theorem kw_1_108 : (Jvm.Cond.fieldLink "ParishUnion" (367 : Nat) "ParishUnion$House" "choices" "I") ∈ gT := gT_of (tb_1 _ (List.mem_of_getElem? (i := 108) rfl)) rfl
theorem dX11_choice_45 : decode cX11_choice 45 = .ok (.bipush 6, 2) := dc_16 6 6 (by decide +kernel)
theorem dX11_choice_47 : decode cX11_choice 47 = .ok (.if_icmp .lt 6, 3) := dc_161 0 6 6 (by decide +kernel)
theorem dX11_choice_53 : decode cX11_choice 53 = .ok (.aload_n 0, 1) := dc_42 (by decide +kernel)
theorem dX11_choice_54 : decode cX11_choice 54 = .ok (.getfield 10, 3) := dc_180 0 10 (by decide +kernel)
theorem dX11_choice_57 : decode cX11_choice 57 = .ok (.getfield 279, 3) := dc_180 1 23 (by decide +kernel)
theorem dX11_choice_60 : decode cX11_choice 60 = .ok (.iload_n 1, 1) := dc_27 (by decide +kernel)
theorem dX11_choice_61 : decode cX11_choice 61 = .ok (.iload_n 2, 1) := dc_28 (by decide +kernel)
theorem dX11_choice_62 : decode cX11_choice 62 = .ok (.iload_n 3, 1) := dc_29 (by decide +kernel)
theorem dX11_choice_63 : decode cX11_choice 63 = .ok (.invokevirtual 370, 3) := dc_182 1 114 (by decide +kernel)
theorem kw_5_131 : (Jvm.Cond.methodLink "ParishUnion" (370 : Nat) ({ cls := "ParishUnion$House", name := "addChoice", desc := "(III)I" } : Jvm.MethodName)) ∈ gT := gT_of (tb_5 _ (List.mem_of_getElem? (i := 131) rfl)) rfl
theorem kw_5_134 : (Jvm.Cond.code ({ cls := "ParishUnion$House", name := "addChoice", desc := "(III)I" } : Jvm.MethodName) prog_4_method_3_code (4 : Nat) (Option.some Jvm.ClassFile.FieldType.int)) ∈ gT := gT_of (tb_5 _ (List.mem_of_getElem? (i := 134) rfl)) rfl
theorem kw_1_5 : (Jvm.Cond.initialized "ParishUnion$House") ∈ gT := gT_of (tb_1 _ (List.mem_of_getElem? (i := 5) rfl)) rfl
theorem okX2_addChoice : gQok yX2_addChoice cX2_addChoice 4 (Option.some Jvm.ClassFile.FieldType.int) 3 := ⟨kw_5_134, kw_1_5, by decide +kernel, by decide +kernel, by decide +kernel⟩
theorem kw_5_132 : (Jvm.Cond.instanceMethod ({ cls := "ParishUnion$House", name := "addChoice", desc := "(III)I" } : Jvm.MethodName)) ∈ gT := gT_of (tb_5 _ (List.mem_of_getElem? (i := 132) rfl)) rfl
theorem kw_5_133 : (Jvm.Cond.selects "ParishUnion$House" ({ cls := "ParishUnion$House", name := "addChoice", desc := "(III)I" } : Jvm.MethodName) ({ cls := "ParishUnion$House", name := "addChoice", desc := "(III)I" } : Jvm.MethodName)) ∈ gT := gT_of (tb_5 _ (List.mem_of_getElem? (i := 133) rfl)) rfl
theorem dX11_choice_66 : decode cX11_choice 66 = .ok (.ireturn, 1) := dc_172 (by decide +kernel)
theorem dX11_choice_50 : decode cX11_choice 50 = .ok (.bipush (-4), 2) := dc_16 252 (-4) (by decide +kernel)
theorem dX11_choice_52 : decode cX11_choice 52 = .ok (.ireturn, 1) := dc_172 (by decide +kernel)
theorem dX11_choice_9 : decode cX11_choice 9 = .ok (.iconst (-1), 1) := dc_2 (by decide +kernel)
theorem dX11_choice_10 : decode cX11_choice 10 = .ok (.ireturn, 1) := dc_172 (by decide +kernel)
abbrev R_X11_choice : Room := { frames := 1, cells := 0, slots := 0, locals := 23 }
set_option maxRecDepth 100000 in
set_option maxHeartbeats 4000000 in
theorem s_X11_choice {l : Launch} {n0 : Nat} {D : va_G} {cA : Nat → ClassId} {M : gM} (a : Int) (r_a : -2147483648 ≤ a ∧ a ≤ 2147483647) (b : Int) (r_b : -2147483648 ≤ b ∧ b ≤ 2147483647) (c : Int) (r_c : -2147483648 ≤ c ∧ c ≤ 2147483647) {sz : Nat} (hsz : 206 ≤ sz) (I : gI sz M) (C : gC sz M)   : Met l yX11_choice (gWsOf yX11_choice cX11_choice 4 (Option.some Jvm.ClassFile.FieldType.int)) R_X11_choice (gPc n0 D cA [gA n0 0, gJ a, gJ b, gJ c] M sz) (gQi n0 D cA sz (fun z M1 => (-4 ≤ z ∧ z ≤ 6) ∧ gI sz M1 ∧ gC sz M1 ∧ gFr 16384 M M1 ∧ ((¬ (0 ≤ a ∧ a ≤ 4) ∧ z = -1 ∧ M1 15 7 = M 15 7) ∨ ((0 ≤ a ∧ a ≤ 4) ∧ ¬ ((1 ≤ b ∧ b ≤ 99) ∧ (0 ≤ c ∧ c ≤ 999)) ∧ z = -2 ∧ M1 15 7 = M 15 7) ∨ ((0 ≤ a ∧ a ≤ 4) ∧ ((1 ≤ b ∧ b ≤ 99) ∧ (0 ≤ c ∧ c ≤ 999)) ∧ M 15 7 = 6 ∧ z = -4 ∧ M1 15 7 = M 15 7) ∨ ((0 ≤ a ∧ a ≤ 4) ∧ ((1 ≤ b ∧ b ≤ 99) ∧ (0 ≤ c ∧ c ≤ 999)) ∧ M 15 7 < 6 ∧ z = M 15 7 ∧ M1 15 7 = M 15 7 + 1)))) 0 0 (fun q => n0 ≤ q) := by
  refine gMetI [gA n0 0, gJ a, gJ b, gJ c] (by decide) (Nat.le_of_ble_eq_true rfl) ⟨rfl, rfl⟩ ?_
  intro p e s m args below meth cd Q X hq
  have X : gCx p s m args meth cd n0 D cA "ParishUnion" cX11_choice 4 := X
  show G p l e R_X11_choice s m args below meth cd n0 D cA 4 Q 0 0 M sz 0 [(0, gA n0 0), (1, gJ a), (2, gJ b), (3, gJ c)] []
  obtain ⟨v1, hv1, rv1⟩ := gRd I (by decide) (gsz hsz (by decide)) rc_15_7.1
  refine g_iload_n (n := 1) X 1 dX11_choice_0 rfl rfl rfl ?_
  refine g_iconst (n := 2) X dX11_choice_1 rfl ?_
  refine g_iconst (n := 3) X dX11_choice_2 rfl ?_
  refine g_callSi (n := 6) (As := [gJ a, gJ 0, gJ 4]) (rest := []) (cs1 := 0) (ss1 := 0) X (s_X11_within a (by omega) 0 (by omega) 4 (by omega) hsz I C ) okX11_within kw_3_29 kw_3_30 ⟨rfl, rfl⟩ ⟨Nat.le_of_ble_eq_true rfl, Nat.le_of_ble_eq_true rfl⟩ rfl rfl (Nat.le_of_ble_eq_true rfl) ⟨Nat.le_of_ble_eq_true rfl, Nat.le_of_ble_eq_true rfl⟩ rfl rfl dX11_choice_3 rfl (fun v2 M3 P4 => ?_)
  obtain ⟨rfl, rv2, xv2⟩ := P4
  refine g_if_ne (n := 9) (tgt := 11) X dX11_choice_6 (by decide) (by omega) rfl (fun c5 => ?_) (fun c5 => ?_)
  · refine g_iload_n (n := 12) X 2 dX11_choice_11 rfl rfl rfl ?_
    refine g_iconst (n := 13) X dX11_choice_12 rfl ?_
    refine g_bipush (n := 15) X dX11_choice_13 (by decide +kernel) rfl ?_
    refine g_callSi (n := 18) (As := [gJ b, gJ 1, gJ 99]) (rest := []) (cs1 := 0) (ss1 := 0) X (s_X11_within b (by omega) 1 (by omega) 99 (by omega) hsz I C ) okX11_within kw_3_29 kw_3_30 ⟨rfl, rfl⟩ ⟨Nat.le_of_ble_eq_true rfl, Nat.le_of_ble_eq_true rfl⟩ rfl rfl (Nat.le_of_ble_eq_true rfl) ⟨Nat.le_of_ble_eq_true rfl, Nat.le_of_ble_eq_true rfl⟩ rfl rfl dX11_choice_15 rfl (fun v6 M7 P8 => ?_)
    obtain ⟨rfl, rv6, xv6⟩ := P8
    refine g_if_eq (n := 21) (tgt := 32) X dX11_choice_18 (by decide) (by omega) rfl (fun c9 => ?_) (fun c9 => ?_)
    · refine g_bipush (n := 34) X dX11_choice_32 (by decide +kernel) rfl ?_
      exact hq _ _ _ _ dX11_choice_34 ⟨by omega, I, C, gFr.rf, by have q0 := hv1; omega⟩
    · refine g_iload_n (n := 22) X 3 dX11_choice_21 rfl rfl rfl ?_
      refine g_iconst (n := 23) X dX11_choice_22 rfl ?_
      refine g_sipush (n := 26) X dX11_choice_23 (by decide +kernel) rfl ?_
      refine g_callSi (n := 29) (As := [gJ c, gJ 0, gJ 999]) (rest := []) (cs1 := 0) (ss1 := 0) X (s_X11_within c (by omega) 0 (by omega) 999 (by omega) hsz I C ) okX11_within kw_3_29 kw_3_30 ⟨rfl, rfl⟩ ⟨Nat.le_of_ble_eq_true rfl, Nat.le_of_ble_eq_true rfl⟩ rfl rfl (Nat.le_of_ble_eq_true rfl) ⟨Nat.le_of_ble_eq_true rfl, Nat.le_of_ble_eq_true rfl⟩ rfl rfl dX11_choice_26 rfl (fun v10 M11 P12 => ?_)
      obtain ⟨rfl, rv10, xv10⟩ := P12
      refine g_if_ne (n := 32) (tgt := 35) X dX11_choice_29 (by decide) (by omega) rfl (fun c13 => ?_) (fun c13 => ?_)
      · refine g_aload_n (n := 36) X 0 dX11_choice_35 rfl rfl rfl ?_
        refine gg_11_0 (n := 39) (z := 1) X (by decide) (gsz hsz (by decide)) lay_0 kw_2_231 dX11_choice_36 rfl (rf_0_0 I (gsz hsz (by decide))) (by decide) ?_
        refine gg_9_6 (n := 42) (z := 15) X (by decide) (gsz hsz (by decide)) lay_1 kw_2_119 dX11_choice_39 rfl (rf_1_6 I (gsz hsz (by decide))) (by decide) ?_
        refine gg_2_7 (n := 45) (z := v1) X (by decide) (gsz hsz (by decide)) lay_15 kw_1_108 dX11_choice_42 rfl hv1 ?_
        refine g_bipush (n := 47) X dX11_choice_45 (by decide +kernel) rfl ?_
        refine g_icmp_lt (n := 50) (tgt := 53) X dX11_choice_47 (by decide) (by omega) (by omega) rfl (fun c14 => ?_) (fun c14 => ?_)
        · refine g_aload_n (n := 54) X 0 dX11_choice_53 rfl rfl rfl ?_
          refine gg_11_0 (n := 57) (z := 1) X (by decide) (gsz hsz (by decide)) lay_0 kw_2_231 dX11_choice_54 rfl (rf_0_0 I (gsz hsz (by decide))) (by decide) ?_
          refine gg_9_6 (n := 60) (z := 15) X (by decide) (gsz hsz (by decide)) lay_1 kw_2_119 dX11_choice_57 rfl (rf_1_6 I (gsz hsz (by decide))) (by decide) ?_
          refine g_iload_n (n := 61) X 1 dX11_choice_60 rfl rfl rfl ?_
          refine g_iload_n (n := 62) X 2 dX11_choice_61 rfl rfl rfl ?_
          refine g_iload_n (n := 63) X 3 dX11_choice_62 rfl rfl rfl ?_
          refine g_callVi (n := 66) (As := [gJ a, gJ b, gJ c]) (rest := []) (cs1 := 0) (ss1 := 0) X (s_X2_addChoice a (by omega) b (by omega) c (by omega) hsz I C (by have := hv1; omega)) okX2_addChoice kw_5_131 ⟨kw_5_132, kw_5_133⟩ ⟨rfl, rfl⟩ ⟨Nat.le_of_ble_eq_true rfl, Nat.le_of_ble_eq_true rfl⟩ rfl (by decide) (gsz hsz (by decide)) lay_15 rfl rfl (Nat.le_of_ble_eq_true rfl) ⟨Nat.le_of_ble_eq_true rfl, Nat.le_of_ble_eq_true rfl⟩ rfl rfl dX11_choice_63 rfl (fun v15 M16 P17 => ?_)
          obtain ⟨v18, hv18, rv18, M19, e20, M21, e22, M23, e24, M25, e26, xv15, rfl⟩ := P17
          have IM19 : gI sz M19 := gI.set I (ra_20 v18).1 (by omega) e20
          have CM19 : gC sz M19 := gC.set C (ra_20 v18).2.1 e20
          have IM21 : gI sz M21 := gI.set IM19 (ra_21 v18).1 (by omega) e22
          have CM21 : gC sz M21 := gC.set CM19 (ra_21 v18).2.1 e22
          have IM23 : gI sz M23 := gI.set IM21 (ra_22 v18).1 (by omega) e24
          have CM23 : gC sz M23 := gC.set CM21 (ra_22 v18).2.1 e24
          have IM25 : gI sz M25 := gI.set IM23 rc_15_7.1 (by omega) e26
          have CM25 : gC sz M25 := gC.set CM23 rc_15_7.2.1 e26
          exact hq _ _ _ _ dX11_choice_66 ⟨by omega, IM25, CM25, (gFr.s (gFr.s (gFr.s (gFr.s gFr.rf e20 (ra_20 v18).2.2 rfl) e22 (ra_21 v18).2.2 rfl) e24 (ra_22 v18).2.2 rfl) e26 rc_15_7.2.2 rfl), by have q0 := ((congrFun (congrFun e26 _) _).trans (gset_eq _ _ _ _)); omega⟩
        · refine g_bipush (n := 52) X dX11_choice_50 (by decide +kernel) rfl ?_
          exact hq _ _ _ _ dX11_choice_52 ⟨by omega, I, C, gFr.rf, by have q0 := hv1; omega⟩
      · refine g_bipush (n := 34) X dX11_choice_32 (by decide +kernel) rfl ?_
        exact hq _ _ _ _ dX11_choice_34 ⟨by omega, I, C, gFr.rf, by have q0 := hv1; omega⟩
  · refine g_iconst (n := 10) X dX11_choice_9 rfl ?_
    exact hq _ _ _ _ dX11_choice_10 ⟨by omega, I, C, gFr.rf, by have q0 := hv1; omega⟩
theorem dX11_frosts_0 : decode cX11_frosts 0 = .ok (.iload_n 1, 1) := dc_27 (by decide +kernel)
theorem dX11_frosts_1 : decode cX11_frosts 1 = .ok (.iconst 0, 1) := dc_3 (by decide +kernel)
theorem dX11_frosts_2 : decode cX11_frosts 2 = .ok (.iconst 2, 1) := dc_5 (by decide +kernel)
theorem dX11_frosts_3 : decode cX11_frosts 3 = .ok (.invokestatic 62, 3) := dc_184 0 62 (by decide +kernel)
theorem dX11_frosts_6 : decode cX11_frosts 6 = .ok (.ifCond .ne 5, 3) := dc_154 0 5 5 (by decide +kernel)
theorem dX11_frosts_11 : decode cX11_frosts 11 = .ok (.iload 4, 2) := dc_21 4 (by decide +kernel)
theorem dX11_frosts_13 : decode cX11_frosts 13 = .ok (.iconst 1, 1) := dc_4 (by decide +kernel)
theorem dX11_frosts_14 : decode cX11_frosts 14 = .ok (.bipush 10, 2) := dc_16 10 10 (by decide +kernel)
theorem dX11_frosts_16 : decode cX11_frosts 16 = .ok (.invokestatic 62, 3) := dc_184 0 62 (by decide +kernel)
theorem dX11_frosts_19 : decode cX11_frosts 19 = .ok (.ifCond .ne 6, 3) := dc_154 0 6 6 (by decide +kernel)
theorem dX11_frosts_25 : decode cX11_frosts 25 = .ok (.lconst 1, 1) := dc_10 (by decide +kernel)
theorem dX11_frosts_26 : decode cX11_frosts 26 = .ok (.lstore 5, 2) := dc_55 5 (by decide +kernel)
theorem dX11_frosts_28 : decode cX11_frosts 28 = .ok (.iconst 0, 1) := dc_3 (by decide +kernel)
theorem dX11_frosts_29 : decode cX11_frosts 29 = .ok (.istore 7, 2) := dc_54 7 (by decide +kernel)
theorem dX11_frosts_31 : decode cX11_frosts 31 = .ok (.iload 7, 2) := dc_21 7 (by decide +kernel)
theorem dX11_frosts_33 : decode cX11_frosts 33 = .ok (.iload 4, 2) := dc_21 4 (by decide +kernel)
theorem dX11_frosts_35 : decode cX11_frosts 35 = .ok (.if_icmp .ge 17, 3) := dc_162 0 17 17 (by decide +kernel)
theorem dX11_frosts_52 : decode cX11_frosts 52 = .ok (.lload_n 2, 1) := dc_32 (by decide +kernel)
theorem dX11_frosts_53 : decode cX11_frosts 53 = .ok (.lconst 0, 1) := dc_9 (by decide +kernel)
theorem dX11_frosts_54 : decode cX11_frosts 54 = .ok (.lcmp, 1) := dc_148 (by decide +kernel)
theorem dX11_frosts_55 : decode cX11_frosts 55 = .ok (.ifCond .lt 10, 3) := dc_155 0 10 10 (by decide +kernel)
theorem dX11_frosts_65 : decode cX11_frosts 65 = .ok (.bipush (-2), 2) := dc_16 254 (-2) (by decide +kernel)
theorem dX11_frosts_67 : decode cX11_frosts 67 = .ok (.ireturn, 1) := dc_172 (by decide +kernel)
theorem dX11_frosts_58 : decode cX11_frosts 58 = .ok (.lload_n 2, 1) := dc_32 (by decide +kernel)
theorem dX11_frosts_59 : decode cX11_frosts 59 = .ok (.lload 5, 2) := dc_22 5 (by decide +kernel)
theorem dX11_frosts_61 : decode cX11_frosts 61 = .ok (.lcmp, 1) := dc_148 (by decide +kernel)
theorem dX11_frosts_62 : decode cX11_frosts 62 = .ok (.ifCond .lt 6, 3) := dc_155 0 6 6 (by decide +kernel)
theorem dX11_frosts_68 : decode cX11_frosts 68 = .ok (.aload_n 0, 1) := dc_42 (by decide +kernel)
theorem dX11_frosts_69 : decode cX11_frosts 69 = .ok (.getfield 10, 3) := dc_180 0 10 (by decide +kernel)
theorem dX11_frosts_72 : decode cX11_frosts 72 = .ok (.getfield 279, 3) := dc_180 1 23 (by decide +kernel)
theorem dX11_frosts_75 : decode cX11_frosts 75 = .ok (.iload_n 1, 1) := dc_27 (by decide +kernel)
theorem dX11_frosts_76 : decode cX11_frosts 76 = .ok (.lload_n 2, 1) := dc_32 (by decide +kernel)
theorem dX11_frosts_77 : decode cX11_frosts 77 = .ok (.iload 4, 2) := dc_21 4 (by decide +kernel)
theorem dX11_frosts_79 : decode cX11_frosts 79 = .ok (.invokevirtual 376, 3) := dc_182 1 120 (by decide +kernel)
theorem kw_5_140 : (Jvm.Cond.methodLink "ParishUnion" (376 : Nat) ({ cls := "ParishUnion$House", name := "setRow", desc := "(IJI)V" } : Jvm.MethodName)) ∈ gT := gT_of (tb_5 _ (List.mem_of_getElem? (i := 140) rfl)) rfl
theorem kw_5_143 : (Jvm.Cond.code ({ cls := "ParishUnion$House", name := "setRow", desc := "(IJI)V" } : Jvm.MethodName) prog_4_method_6_code (8 : Nat) (Option.none : Option Jvm.ClassFile.FieldType)) ∈ gT := gT_of (tb_5 _ (List.mem_of_getElem? (i := 143) rfl)) rfl
theorem okX2_setRow : gQok yX2_setRow cX2_setRow 8 (Option.none : Option Jvm.ClassFile.FieldType) 3 := ⟨kw_5_143, kw_1_5, by decide +kernel, by decide +kernel, by decide +kernel⟩
theorem kw_5_141 : (Jvm.Cond.instanceMethod ({ cls := "ParishUnion$House", name := "setRow", desc := "(IJI)V" } : Jvm.MethodName)) ∈ gT := gT_of (tb_5 _ (List.mem_of_getElem? (i := 141) rfl)) rfl
theorem kw_5_142 : (Jvm.Cond.selects "ParishUnion$House" ({ cls := "ParishUnion$House", name := "setRow", desc := "(IJI)V" } : Jvm.MethodName) ({ cls := "ParishUnion$House", name := "setRow", desc := "(IJI)V" } : Jvm.MethodName)) ∈ gT := gT_of (tb_5 _ (List.mem_of_getElem? (i := 142) rfl)) rfl
theorem dX11_frosts_82 : decode cX11_frosts 82 = .ok (.iload 4, 2) := dc_21 4 (by decide +kernel)
theorem dX11_frosts_84 : decode cX11_frosts 84 = .ok (.ireturn, 1) := dc_172 (by decide +kernel)
theorem dX11_frosts_38 : decode cX11_frosts 38 = .ok (.lload 5, 2) := dc_22 5 (by decide +kernel)
theorem dX11_frosts_40 : decode cX11_frosts 40 = .ok (.ldc2_w 374, 3) := dc_20 1 118 (by decide +kernel)
theorem kw_5_139 : (Jvm.Cond.constantLong "ParishUnion" (374 : Nat) (10 : Int64)) ∈ gT := gT_of (tb_5 _ (List.mem_of_getElem? (i := 139) rfl)) rfl
theorem dX11_frosts_43 : decode cX11_frosts 43 = .ok (.lmul, 1) := dc_105 (by decide +kernel)
theorem dX11_frosts_44 : decode cX11_frosts 44 = .ok (.lstore 5, 2) := dc_55 5 (by decide +kernel)
theorem dX11_frosts_46 : decode cX11_frosts 46 = .ok (.iinc 7 1, 3) := dc_132 7 1 1 (by decide +kernel)
theorem dX11_frosts_49 : decode cX11_frosts 49 = .ok (.goto (-18), 3) := dc_167 255 238 (-18) (by decide +kernel)
theorem dX11_frosts_22 : decode cX11_frosts 22 = .ok (.bipush (-2), 2) := dc_16 254 (-2) (by decide +kernel)
theorem dX11_frosts_24 : decode cX11_frosts 24 = .ok (.ireturn, 1) := dc_172 (by decide +kernel)
theorem dX11_frosts_9 : decode cX11_frosts 9 = .ok (.iconst (-1), 1) := dc_2 (by decide +kernel)
theorem dX11_frosts_10 : decode cX11_frosts 10 = .ok (.ireturn, 1) := dc_172 (by decide +kernel)
abbrev R_X11_frosts : Room := { frames := 1, cells := 0, slots := 0, locals := 27 }
set_option maxRecDepth 100000 in
set_option maxHeartbeats 4000000 in
theorem s_X11_frosts {l : Launch} {n0 : Nat} {D : va_G} {cA : Nat → ClassId} {M : gM} (a : Int) (r_a : -2147483648 ≤ a ∧ a ≤ 2147483647) (b : Int) (r_b : -9223372036854775808 ≤ b ∧ b ≤ 9223372036854775807) (c : Int) (r_c : -2147483648 ≤ c ∧ c ≤ 2147483647) {sz : Nat} (hsz : 206 ≤ sz) (I : gI sz M) (C : gC sz M)   : Met l yX11_frosts (gWsOf yX11_frosts cX11_frosts 8 (Option.some Jvm.ClassFile.FieldType.int)) R_X11_frosts (gPc n0 D cA [gA n0 0, gJ a, gV b, gJ c] M sz) (gQi n0 D cA sz (fun z M1 => (-2 ≤ z ∧ z ≤ 10) ∧ gI sz M1 ∧ gC sz M1 ∧ gFr 8192 M M1 ∧ ((¬ (0 ≤ a ∧ a ≤ 2) ∧ z = -1) ∨ ((0 ≤ a ∧ a ≤ 2) ∧ ¬ ((1 ≤ c ∧ c ≤ 10) ∧ 0 ≤ b ∧ b < gTen c) ∧ z = -2) ∨ ((0 ≤ a ∧ a ≤ 2) ∧ ((1 ≤ c ∧ c ≤ 10) ∧ 0 ≤ b ∧ b < gTen c) ∧ z = c)))) 0 0 (fun q => n0 ≤ q) := by
  refine gMetI [gA n0 0, gJ a, gV b, gJ c] (by decide) (Nat.le_of_ble_eq_true rfl) ⟨rfl, rfl⟩ ?_
  intro p e s m args below meth cd Q X hq
  have X : gCx p s m args meth cd n0 D cA "ParishUnion" cX11_frosts 8 := X
  show G p l e R_X11_frosts s m args below meth cd n0 D cA 8 Q 0 0 M sz 0 [(0, gA n0 0), (1, gJ a), (2, gV b), (4, gJ c)] []
  refine g_iload_n (n := 1) X 1 dX11_frosts_0 rfl rfl rfl ?_
  refine g_iconst (n := 2) X dX11_frosts_1 rfl ?_
  refine g_iconst (n := 3) X dX11_frosts_2 rfl ?_
  refine g_callSi (n := 6) (As := [gJ a, gJ 0, gJ 2]) (rest := []) (cs1 := 0) (ss1 := 0) X (s_X11_within a (by omega) 0 (by omega) 2 (by omega) hsz I C ) okX11_within kw_3_29 kw_3_30 ⟨rfl, rfl⟩ ⟨Nat.le_of_ble_eq_true rfl, Nat.le_of_ble_eq_true rfl⟩ rfl rfl (Nat.le_of_ble_eq_true rfl) ⟨Nat.le_of_ble_eq_true rfl, Nat.le_of_ble_eq_true rfl⟩ rfl rfl dX11_frosts_3 rfl (fun v1 M2 P3 => ?_)
  obtain ⟨rfl, rv1, xv1⟩ := P3
  refine g_if_ne (n := 9) (tgt := 11) X dX11_frosts_6 (by decide) (by omega) rfl (fun c4 => ?_) (fun c4 => ?_)
  · refine g_iload (n := 13) X 3 dX11_frosts_11 rfl rfl ?_
    refine g_iconst (n := 14) X dX11_frosts_13 rfl ?_
    refine g_bipush (n := 16) X dX11_frosts_14 (by decide +kernel) rfl ?_
    refine g_callSi (n := 19) (As := [gJ c, gJ 1, gJ 10]) (rest := []) (cs1 := 0) (ss1 := 0) X (s_X11_within c (by omega) 1 (by omega) 10 (by omega) hsz I C ) okX11_within kw_3_29 kw_3_30 ⟨rfl, rfl⟩ ⟨Nat.le_of_ble_eq_true rfl, Nat.le_of_ble_eq_true rfl⟩ rfl rfl (Nat.le_of_ble_eq_true rfl) ⟨Nat.le_of_ble_eq_true rfl, Nat.le_of_ble_eq_true rfl⟩ rfl rfl dX11_frosts_16 rfl (fun v5 M6 P7 => ?_)
    obtain ⟨rfl, rv5, xv5⟩ := P7
    refine g_if_ne (n := 22) (tgt := 25) X dX11_frosts_19 (by decide) (by omega) rfl (fun c8 => ?_) (fun c8 => ?_)
    · refine g_lconst (n := 26) (z := 1) X dX11_frosts_25 (by decide +kernel) rfl ?_
      refine g_lstore (n := 28) (L' := [(5, gV 1), (0, gA n0 0), (1, gJ a), (2, gV b), (4, gJ c)]) X dX11_frosts_26 (by decide) rfl rfl ?_
      refine g_iconst (n := 29) X dX11_frosts_28 rfl ?_
      refine g_istore (n := 31) (L' := [(7, gJ 0), (5, gV 1), (0, gA n0 0), (1, gJ a), (2, gV b), (4, gJ c)]) X dX11_frosts_29 (by decide) rfl rfl ?_
      have j12 : ∀ (N21 : Nat) (v9 v10 : Int) , (1 ≤ v9 ∧ v9 ≤ 10000000000) → (0 ≤ v10 ∧ v10 ≤ 10) → (v9 = gTen v10 ∧ (v10 ≤ c ∨ (c ≤ 0 ∧ v10 = 0))) → (10 - v10).toNat < N21 → G p l e R_X11_frosts s m args below meth cd n0 D cA 8 Q 0 0 M sz 31 [(0, gA n0 0), (1, gJ a), (2, gV b), (4, gJ c), (5, gV v9), (7, gJ v10)] [] := by
        intro N21; induction N21 with
        | zero => intro v9 v10 rv9 rv10 hp5 hm23; exfalso; omega
        | succ N21 ih22 =>
          intro v9 v10 rv9 rv10 hp5 hm23
          have hT5 : v10 < 10 → 1 ≤ gTen v10 ∧ gTen v10 ≤ 1000000000 := fun h => gTen_r (by omega) h
          refine g_iload (n := 33) X 5 dX11_frosts_31 rfl rfl ?_
          refine g_iload (n := 35) X 3 dX11_frosts_33 rfl rfl ?_
          refine g_icmp_ge (n := 38) (tgt := 52) X dX11_frosts_35 (by decide) (by omega) (by omega) rfl (fun c24 => ?_) (fun c24 => ?_)
          · have hT6 : (1 ≤ c ∧ c ≤ 10) → gTen v10 = gTen c := fun h => by rw [show v10 = c by omega]
            refine g_lload_n (n := 53) X 2 dX11_frosts_52 rfl rfl rfl ?_
            refine g_lconst (n := 54) (z := 0) X dX11_frosts_53 (by decide +kernel) rfl ?_
            refine g_lcmp2 (n := 55) X dX11_frosts_54 (by omega) (by omega) rfl (fun v25 xv25 rv25 => ?_)
            refine g_if_lt (n := 58) (tgt := 65) X dX11_frosts_55 (by decide) (by omega) rfl (fun c26 => ?_) (fun c26 => ?_)
            · refine g_bipush (n := 67) X dX11_frosts_65 (by decide +kernel) rfl ?_
              exact hq _ _ _ _ dX11_frosts_67 ⟨by omega, I, C, gFr.rf, by omega⟩
            · refine g_lload_n (n := 59) X 2 dX11_frosts_58 rfl rfl rfl ?_
              refine g_lload (n := 61) X 4 dX11_frosts_59 rfl rfl ?_
              refine g_lcmp2 (n := 62) X dX11_frosts_61 (by omega) (by omega) rfl (fun v27 xv27 rv27 => ?_)
              refine g_if_lt (n := 65) (tgt := 68) X dX11_frosts_62 (by decide) (by omega) rfl (fun c28 => ?_) (fun c28 => ?_)
              · refine g_aload_n (n := 69) X 0 dX11_frosts_68 rfl rfl rfl ?_
                refine gg_11_0 (n := 72) (z := 1) X (by decide) (gsz hsz (by decide)) lay_0 kw_2_231 dX11_frosts_69 rfl (rf_0_0 I (gsz hsz (by decide))) (by decide) ?_
                refine gg_9_6 (n := 75) (z := 15) X (by decide) (gsz hsz (by decide)) lay_1 kw_2_119 dX11_frosts_72 rfl (rf_1_6 I (gsz hsz (by decide))) (by decide) ?_
                refine g_iload_n (n := 76) X 1 dX11_frosts_75 rfl rfl rfl ?_
                refine g_lload_n (n := 77) X 2 dX11_frosts_76 rfl rfl rfl ?_
                refine g_iload (n := 79) X 3 dX11_frosts_77 rfl rfl ?_
                refine g_callVv (n := 82) (As := [gJ a, gV b, gJ c]) (rest := []) (cs1 := 0) (ss1 := 0) X (s_X2_setRow a (by omega) b (by omega) c (by omega) hsz I C ) okX2_setRow kw_5_140 ⟨kw_5_141, kw_5_142⟩ ⟨rfl, rfl⟩ ⟨Nat.le_of_ble_eq_true rfl, Nat.le_of_ble_eq_true rfl⟩ rfl (by decide) (gsz hsz (by decide)) lay_15 rfl rfl (Nat.le_of_ble_eq_true rfl) ⟨Nat.le_of_ble_eq_true rfl, Nat.le_of_ble_eq_true rfl⟩ rfl rfl dX11_frosts_79 rfl (fun M30 P31 => ?_)
                obtain ⟨IM30, CM30, FM30⟩ := P31
                refine g_iload (n := 84) X 3 dX11_frosts_82 rfl rfl ?_
                exact hq _ _ _ _ dX11_frosts_84 ⟨by omega, IM30, CM30, (gFr.c gFr.rf FM30 rfl), by omega⟩
              · refine g_bipush (n := 67) X dX11_frosts_65 (by decide +kernel) rfl ?_
                exact hq _ _ _ _ dX11_frosts_67 ⟨by omega, I, C, gFr.rf, by omega⟩
          · refine g_lload (n := 40) X 4 dX11_frosts_38 rfl rfl ?_
            refine g_ldc2 (n := 43) (z := 10) X dX11_frosts_40 kw_5_139 (by decide +kernel) rfl ?_
            refine g_lmul (n := 44) (z := v9 * 10) X dX11_frosts_43 rfl rfl ?_
            refine g_lstore (n := 46) (L' := [(5, gV (v9 * 10)), (0, gA n0 0), (1, gJ a), (2, gV b), (4, gJ c), (7, gJ v10)]) X dX11_frosts_44 (by decide) rfl rfl ?_
            refine g_iinc (n := 49) (w := v10 + 1) (L' := [(7, gJ (v10 + 1)), (5, gV (v9 * 10)), (0, gA n0 0), (1, gJ a), (2, gV b), (4, gJ c)]) X 5 dX11_frosts_46 rfl rfl (by decide) rfl rfl ?_
            refine g_goto (tgt := 31) X dX11_frosts_49 (by decide) ?_
            refine G.sub (L' := [(0, gA n0 0), (1, gJ a), (2, gV b), (4, gJ c), (5, gV (v9 * 10)), (7, gJ (v10 + 1))]) [2, 3, 4, 5, 1, 0] rfl ?_
            exact ih22 (v9 * 10) (v10 + 1) (by omega) (by omega) ⟨by rw [gTen_s (by omega) (by omega)]; omega, by omega⟩ (by omega)
      refine G.sub (L' := [(0, gA n0 0), (1, gJ a), (2, gV b), (4, gJ c), (5, gV 1), (7, gJ 0)]) [2, 3, 4, 5, 1, 0] rfl ?_
      exact j12 _ 1 0 (by omega) (by omega) ⟨by decide, by omega⟩ (Nat.lt_succ_self _)
    · refine g_bipush (n := 24) X dX11_frosts_22 (by decide +kernel) rfl ?_
      exact hq _ _ _ _ dX11_frosts_24 ⟨by omega, I, C, gFr.rf, by omega⟩
  · refine g_iconst (n := 10) X dX11_frosts_9 rfl ?_
    exact hq _ _ _ _ dX11_frosts_10 ⟨by omega, I, C, gFr.rf, by omega⟩
theorem dX11_told_0 : decode cX11_told 0 = .ok (.aload_n 0, 1) := dc_42 (by decide +kernel)
theorem dX11_told_1 : decode cX11_told 1 = .ok (.iload_n 1, 1) := dc_27 (by decide +kernel)
theorem dX11_told_2 : decode cX11_told 2 = .ok (.invokevirtual 82, 3) := dc_182 0 82 (by decide +kernel)
theorem dX11_told_5 : decode cX11_told 5 = .ok (.ifCond .ne 5, 3) := dc_154 0 5 5 (by decide +kernel)
theorem dX11_told_10 : decode cX11_told 10 = .ok (.iload_n 2, 1) := dc_28 (by decide +kernel)
theorem dX11_told_11 : decode cX11_told 11 = .ok (.iconst 0, 1) := dc_3 (by decide +kernel)
theorem dX11_told_12 : decode cX11_told 12 = .ok (.bipush 8, 2) := dc_16 8 8 (by decide +kernel)
theorem dX11_told_14 : decode cX11_told 14 = .ok (.invokestatic 62, 3) := dc_184 0 62 (by decide +kernel)
theorem dX11_told_17 : decode cX11_told 17 = .ok (.ifCond .ne 6, 3) := dc_154 0 6 6 (by decide +kernel)
theorem dX11_told_23 : decode cX11_told 23 = .ok (.aload_n 0, 1) := dc_42 (by decide +kernel)
theorem dX11_told_24 : decode cX11_told 24 = .ok (.getfield 10, 3) := dc_180 0 10 (by decide +kernel)
theorem dX11_told_27 : decode cX11_told 27 = .ok (.getfield 89, 3) := dc_180 0 89 (by decide +kernel)
theorem dX11_told_30 : decode cX11_told 30 = .ok (.iload_n 1, 1) := dc_27 (by decide +kernel)
theorem dX11_told_31 : decode cX11_told 31 = .ok (.aaload, 1) := dc_50 (by decide +kernel)
theorem dX11_told_32 : decode cX11_told 32 = .ok (.getfield 413, 3) := dc_180 1 157 (by decide +kernel)
theorem kw_1_213 : (Jvm.Cond.fieldLink "ParishUnion" (413 : Nat) "ParishUnion$Person" "toldAt" "I") ∈ gT := gT_of (tb_1 _ (List.mem_of_getElem? (i := 213) rfl)) rfl
theorem dX11_told_35 : decode cX11_told 35 = .ok (.istore_n 3, 1) := dc_62 (by decide +kernel)
theorem dX11_told_36 : decode cX11_told 36 = .ok (.aload_n 0, 1) := dc_42 (by decide +kernel)
theorem dX11_told_37 : decode cX11_told 37 = .ok (.getfield 10, 3) := dc_180 0 10 (by decide +kernel)
theorem dX11_told_40 : decode cX11_told 40 = .ok (.getfield 89, 3) := dc_180 0 89 (by decide +kernel)
theorem dX11_told_43 : decode cX11_told 43 = .ok (.iload_n 1, 1) := dc_27 (by decide +kernel)
theorem dX11_told_44 : decode cX11_told 44 = .ok (.aaload, 1) := dc_50 (by decide +kernel)
theorem dX11_told_45 : decode cX11_told 45 = .ok (.iload_n 2, 1) := dc_28 (by decide +kernel)
theorem dX11_told_46 : decode cX11_told 46 = .ok (.putfield 413, 3) := dc_181 1 157 (by decide +kernel)
theorem dX11_told_49 : decode cX11_told 49 = .ok (.iload_n 3, 1) := dc_29 (by decide +kernel)
theorem dX11_told_50 : decode cX11_told 50 = .ok (.ireturn, 1) := dc_172 (by decide +kernel)
theorem dX11_told_20 : decode cX11_told 20 = .ok (.bipush (-2), 2) := dc_16 254 (-2) (by decide +kernel)
theorem dX11_told_22 : decode cX11_told 22 = .ok (.ireturn, 1) := dc_172 (by decide +kernel)
theorem dX11_told_8 : decode cX11_told 8 = .ok (.iconst (-1), 1) := dc_2 (by decide +kernel)
theorem dX11_told_9 : decode cX11_told 9 = .ok (.ireturn, 1) := dc_172 (by decide +kernel)
abbrev R_X11_told : Room := { frames := 2, cells := 0, slots := 0, locals := 43 }
set_option maxRecDepth 100000 in
set_option maxHeartbeats 4000000 in
theorem s_X11_told {l : Launch} {n0 : Nat} {D : va_G} {cA : Nat → ClassId} {M : gM} (a : Int) (r_a : -2147483648 ≤ a ∧ a ≤ 2147483647) (b : Int) (r_b : -2147483648 ≤ b ∧ b ≤ 2147483647) {sz : Nat} (hsz : 206 ≤ sz) (I : gI sz M) (C : gC sz M)   : Met l yX11_told (gWsOf yX11_told cX11_told 4 (Option.some Jvm.ClassFile.FieldType.int)) R_X11_told (gPc n0 D cA [gA n0 0, gJ a, gJ b] M sz) (gQi n0 D cA sz (fun z M1 => (-2 ≤ z ∧ z ≤ 8) ∧ gI sz M1 ∧ gC sz M1 ∧ gFr 32 M M1 ∧ ((((¬ (0 ≤ a ∧ a < M 1 10) ∧ z = -1) ∨ ((0 ≤ a ∧ a < M 1 10) ∧ ¬ (0 ≤ b ∧ b ≤ 8) ∧ z = -2)) ∧ (∀ p : Int, 0 ≤ p → p < 16 → M1 (31 + p) 11 = M (31 + p) 11)) ∨ ((0 ≤ a ∧ a < M 1 10) ∧ (0 ≤ b ∧ b ≤ 8) ∧ z = M (31 + a) 11 ∧ (∀ p : Int, 0 ≤ p → p < 16 → ¬ p = a → M1 (31 + p) 11 = M (31 + p) 11) ∧ M1 (31 + a) 11 = b)))) 0 0 (fun q => n0 ≤ q) := by
  refine gMetI [gA n0 0, gJ a, gJ b] (by decide) (Nat.le_of_ble_eq_true rfl) ⟨rfl, rfl⟩ ?_
  intro p e s m args below meth cd Q X hq
  have X : gCx p s m args meth cd n0 D cA "ParishUnion" cX11_told 4 := X
  show G p l e R_X11_told s m args below meth cd n0 D cA 4 Q 0 0 M sz 0 [(0, gA n0 0), (1, gJ a), (2, gJ b)] []
  obtain ⟨v1, hv1, rv1⟩ := gRd I (by decide) (gsz hsz (by decide)) rc_1_10.1
  refine g_aload_n (n := 1) X 0 dX11_told_0 rfl rfl rfl ?_
  refine g_iload_n (n := 2) X 1 dX11_told_1 rfl rfl rfl ?_
  refine g_callVi (n := 5) (As := [gJ a]) (rest := []) (cs1 := 0) (ss1 := 0) X (s_X11_isPerson a (by omega) hsz I C ) okX11_isPerson kw_3_56 ⟨kw_3_58, kw_0_0⟩ ⟨rfl, rfl⟩ ⟨Nat.le_of_ble_eq_true rfl, Nat.le_of_ble_eq_true rfl⟩ rfl (by decide) (gsz hsz (by decide)) lay_0 rfl rfl (Nat.le_of_ble_eq_true rfl) ⟨Nat.le_of_ble_eq_true rfl, Nat.le_of_ble_eq_true rfl⟩ rfl rfl dX11_told_2 rfl (fun v2 M3 P4 => ?_)
  obtain ⟨rfl, rv2, xv2⟩ := P4
  refine g_if_ne (n := 8) (tgt := 10) X dX11_told_5 (by decide) (by omega) rfl (fun c5 => ?_) (fun c5 => ?_)
  · refine g_iload_n (n := 11) X 2 dX11_told_10 rfl rfl rfl ?_
    refine g_iconst (n := 12) X dX11_told_11 rfl ?_
    refine g_bipush (n := 14) X dX11_told_12 (by decide +kernel) rfl ?_
    refine g_callSi (n := 17) (As := [gJ b, gJ 0, gJ 8]) (rest := []) (cs1 := 0) (ss1 := 0) X (s_X11_within b (by omega) 0 (by omega) 8 (by omega) hsz I C ) okX11_within kw_3_29 kw_3_30 ⟨rfl, rfl⟩ ⟨Nat.le_of_ble_eq_true rfl, Nat.le_of_ble_eq_true rfl⟩ rfl rfl (Nat.le_of_ble_eq_true rfl) ⟨Nat.le_of_ble_eq_true rfl, Nat.le_of_ble_eq_true rfl⟩ rfl rfl dX11_told_14 rfl (fun v6 M7 P8 => ?_)
    obtain ⟨rfl, rv6, xv6⟩ := P8
    refine g_if_ne (n := 20) (tgt := 23) X dX11_told_17 (by decide) (by omega) rfl (fun c9 => ?_) (fun c9 => ?_)
    · refine g_aload_n (n := 24) X 0 dX11_told_23 rfl rfl rfl ?_
      refine gg_11_0 (n := 27) (z := 1) X (by decide) (gsz hsz (by decide)) lay_0 kw_2_231 dX11_told_24 rfl (rf_0_0 I (gsz hsz (by decide))) (by decide) ?_
      refine gg_9_1 (n := 30) (z := 5) X (by decide) (gsz hsz (by decide)) lay_1 kw_2_108 dX11_told_27 rfl (rf_1_1 I (gsz hsz (by decide))) (by decide) ?_
      refine g_iload_n (n := 31) X 1 dX11_told_30 rfl rfl rfl ?_
      obtain ⟨o10, ho10, ro10⟩ : ∃ o : Int, o = 31 + a ∧ (31 ≤ o ∧ o < 47) := ⟨_, rfl, by omega⟩
      refine g_aald6 (n := 32) (t := o10) X (by decide) (gsz hsz (by decide)) lay_5 (by omega) (by omega) (by decide) (gA5 I hsz (by omega) (by omega) (by omega)) (by omega) dX11_told_31 rfl ?_
      obtain ⟨v11, hv11, rv11⟩ := gRd I (Po0 ro10) (Posz hsz ro10) (rP_11 ro10).1
      refine gg_6_11 (n := 35) (z := v11) X (Po0 ro10) (Posz hsz ro10) (lay2_P ro10) kw_1_213 dX11_told_32 rfl hv11 ?_
      refine g_istore_n (n := 36) (L' := [(3, gJ v11), (0, gA n0 0), (1, gJ a), (2, gJ b)]) X dX11_told_35 rfl (by decide) rfl rfl ?_
      refine g_aload_n (n := 37) X 1 dX11_told_36 rfl rfl rfl ?_
      refine gg_11_0 (n := 40) (z := 1) X (by decide) (gsz hsz (by decide)) lay_0 kw_2_231 dX11_told_37 rfl (rf_0_0 I (gsz hsz (by decide))) (by decide) ?_
      refine gg_9_1 (n := 43) (z := 5) X (by decide) (gsz hsz (by decide)) lay_1 kw_2_108 dX11_told_40 rfl (rf_1_1 I (gsz hsz (by decide))) (by decide) ?_
      refine g_iload_n (n := 44) X 2 dX11_told_43 rfl rfl rfl ?_
      refine g_aald6 (n := 45) (t := o10) X (by decide) (gsz hsz (by decide)) lay_5 (by omega) (by omega) (by decide) (gA5 I hsz (by omega) (by omega) (by omega)) (by omega) dX11_told_44 rfl ?_
      refine g_iload_n (n := 46) X 3 dX11_told_45 rfl rfl rfl ?_
      refine gp_6_11 (n := 49) X (Po0 ro10) (Posz hsz ro10) (lay2_P ro10) kw_1_213 dX11_told_46 rfl ?_
      refine G.nm (fun M12 e13 => ?_)
      have IM12 : gI sz M12 := gI.set I (rP_11 ro10).1 (by omega) e13
      have CM12 : gC sz M12 := gC.set C (rP_11 ro10).2.1 e13
      refine g_iload_n (n := 50) X 0 dX11_told_49 rfl rfl rfl ?_
      exact hq _ _ _ _ dX11_told_50 ⟨by omega, IM12, CM12, (gFr.s gFr.rf e13 (rP_11 ro10).2.2 rfl), Or.inr ⟨by omega, by omega, (by rw [← ho10]; exact hv11.symm), (fun p h0 h1 hp => by rw [e13, gset_ne (by omega)]), (by rw [e13, ho10, gset_eq])⟩⟩
    · refine g_bipush (n := 22) X dX11_told_20 (by decide +kernel) rfl ?_
      exact hq _ _ _ _ dX11_told_22 ⟨by omega, I, C, gFr.rf, Or.inl ⟨by omega, fun p h0 h1 => rfl⟩⟩
  · refine g_iconst (n := 9) X dX11_told_8 rfl ?_
    exact hq _ _ _ _ dX11_told_9 ⟨by omega, I, C, gFr.rf, Or.inl ⟨by omega, fun p h0 h1 => rfl⟩⟩
theorem dX11_check_0 : decode cX11_check 0 = .ok (.aload_n 0, 1) := dc_42 (by decide +kernel)
theorem dX11_check_1 : decode cX11_check 1 = .ok (.iload_n 1, 1) := dc_27 (by decide +kernel)
theorem dX11_check_2 : decode cX11_check 2 = .ok (.invokevirtual 301, 3) := dc_182 1 45 (by decide +kernel)
theorem dX11_check_5 : decode cX11_check 5 = .ok (.ifCond .ne 5, 3) := dc_154 0 5 5 (by decide +kernel)
theorem dX11_check_10 : decode cX11_check 10 = .ok (.iconst 0, 1) := dc_3 (by decide +kernel)
theorem dX11_check_11 : decode cX11_check 11 = .ok (.istore_n 2, 1) := dc_61 (by decide +kernel)
theorem dX11_check_12 : decode cX11_check 12 = .ok (.iload_n 2, 1) := dc_28 (by decide +kernel)
theorem dX11_check_13 : decode cX11_check 13 = .ok (.aload_n 0, 1) := dc_42 (by decide +kernel)
theorem dX11_check_14 : decode cX11_check 14 = .ok (.getfield 10, 3) := dc_180 0 10 (by decide +kernel)
theorem dX11_check_17 : decode cX11_check 17 = .ok (.getfield 98, 3) := dc_180 0 98 (by decide +kernel)
theorem dX11_check_20 : decode cX11_check 20 = .ok (.if_icmp .ge 53, 3) := dc_162 0 53 53 (by decide +kernel)
theorem dX11_check_73 : decode cX11_check 73 = .ok (.bipush (-5), 2) := dc_16 251 (-5) (by decide +kernel)
theorem dX11_check_75 : decode cX11_check 75 = .ok (.ireturn, 1) := dc_172 (by decide +kernel)
theorem dX11_check_23 : decode cX11_check 23 = .ok (.aload_n 0, 1) := dc_42 (by decide +kernel)
theorem dX11_check_24 : decode cX11_check 24 = .ok (.getfield 10, 3) := dc_180 0 10 (by decide +kernel)
theorem dX11_check_27 : decode cX11_check 27 = .ok (.getfield 307, 3) := dc_180 1 51 (by decide +kernel)
theorem dX11_check_30 : decode cX11_check 30 = .ok (.iload_n 1, 1) := dc_27 (by decide +kernel)
theorem dX11_check_31 : decode cX11_check 31 = .ok (.iload_n 2, 1) := dc_28 (by decide +kernel)
theorem dX11_check_32 : decode cX11_check 32 = .ok (.invokevirtual 316, 3) := dc_182 1 60 (by decide +kernel)
theorem dX11_check_35 : decode cX11_check 35 = .ok (.ifCond .eq 32, 3) := dc_153 0 32 32 (by decide +kernel)
theorem dX11_check_67 : decode cX11_check 67 = .ok (.iinc 2 1, 3) := dc_132 2 1 1 (by decide +kernel)
theorem dX11_check_70 : decode cX11_check 70 = .ok (.goto (-58), 3) := dc_167 255 198 (-58) (by decide +kernel)
theorem dX11_check_38 : decode cX11_check 38 = .ok (.aload_n 0, 1) := dc_42 (by decide +kernel)
theorem dX11_check_39 : decode cX11_check 39 = .ok (.getfield 10, 3) := dc_180 0 10 (by decide +kernel)
theorem dX11_check_42 : decode cX11_check 42 = .ok (.getfield 307, 3) := dc_180 1 51 (by decide +kernel)
theorem dX11_check_45 : decode cX11_check 45 = .ok (.iload_n 1, 1) := dc_27 (by decide +kernel)
theorem dX11_check_46 : decode cX11_check 46 = .ok (.iload_n 2, 1) := dc_28 (by decide +kernel)
theorem dX11_check_47 : decode cX11_check 47 = .ok (.invokevirtual 319, 3) := dc_182 1 63 (by decide +kernel)
theorem dX11_check_50 : decode cX11_check 50 = .ok (.aload_n 0, 1) := dc_42 (by decide +kernel)
theorem dX11_check_51 : decode cX11_check 51 = .ok (.getfield 10, 3) := dc_180 0 10 (by decide +kernel)
theorem dX11_check_54 : decode cX11_check 54 = .ok (.getfield 89, 3) := dc_180 0 89 (by decide +kernel)
theorem dX11_check_57 : decode cX11_check 57 = .ok (.iload_n 2, 1) := dc_28 (by decide +kernel)
theorem dX11_check_58 : decode cX11_check 58 = .ok (.aaload, 1) := dc_50 (by decide +kernel)
theorem dX11_check_59 : decode cX11_check 59 = .ok (.getfield 413, 3) := dc_180 1 157 (by decide +kernel)
theorem dX11_check_62 : decode cX11_check 62 = .ok (.if_icmp .eq 5, 3) := dc_159 0 5 5 (by decide +kernel)
theorem dX11_check_65 : decode cX11_check 65 = .ok (.iload_n 2, 1) := dc_28 (by decide +kernel)
theorem dX11_check_66 : decode cX11_check 66 = .ok (.ireturn, 1) := dc_172 (by decide +kernel)
theorem dX11_check_8 : decode cX11_check 8 = .ok (.iconst (-1), 1) := dc_2 (by decide +kernel)
theorem dX11_check_9 : decode cX11_check 9 = .ok (.ireturn, 1) := dc_172 (by decide +kernel)
abbrev R_X11_check : Room := { frames := 2, cells := 0, slots := 0, locals := 44 }
set_option maxRecDepth 100000 in
set_option maxHeartbeats 4000000 in
theorem s_X11_check {l : Launch} {n0 : Nat} {D : va_G} {cA : Nat → ClassId} {M : gM} (a : Int) (r_a : -2147483648 ≤ a ∧ a ≤ 2147483647) {sz : Nat} (hsz : 206 ≤ sz) (I : gI sz M) (C : gC sz M)   : Met l yX11_check (gWsOf yX11_check cX11_check 3 (Option.some Jvm.ClassFile.FieldType.int)) R_X11_check (gPc n0 D cA [gA n0 0, gJ a] M sz) (gQi n0 D cA sz (fun z M1 => M = M1 ∧ (-5 ≤ z ∧ z ≤ 15))) 0 0 (fun q => n0 ≤ q) := by
  refine gMetI [gA n0 0, gJ a] (by decide) (Nat.le_of_ble_eq_true rfl) ⟨rfl, rfl⟩ ?_
  intro p e s m args below meth cd Q X hq
  have X : gCx p s m args meth cd n0 D cA "ParishUnion" cX11_check 3 := X
  show G p l e R_X11_check s m args below meth cd n0 D cA 3 Q 0 0 M sz 0 [(0, gA n0 0), (1, gJ a)] []
  refine g_aload_n (n := 1) X 0 dX11_check_0 rfl rfl rfl ?_
  refine g_iload_n (n := 2) X 1 dX11_check_1 rfl rfl rfl ?_
  refine g_callVi (n := 5) (As := [gJ a]) (rest := []) (cs1 := 0) (ss1 := 0) X (s_X11_isGone a (by omega) hsz I C ) okX11_isGone kw_5_11 ⟨kw_5_13, kw_0_28⟩ ⟨rfl, rfl⟩ ⟨Nat.le_of_ble_eq_true rfl, Nat.le_of_ble_eq_true rfl⟩ rfl (by decide) (gsz hsz (by decide)) lay_0 rfl rfl (Nat.le_of_ble_eq_true rfl) ⟨Nat.le_of_ble_eq_true rfl, Nat.le_of_ble_eq_true rfl⟩ rfl rfl dX11_check_2 rfl (fun v1 M2 P3 => ?_)
  obtain ⟨rfl, rv1, xv1⟩ := P3
  refine g_if_ne (n := 8) (tgt := 10) X dX11_check_5 (by decide) (by omega) rfl (fun c4 => ?_) (fun c4 => ?_)
  · refine g_iconst (n := 11) X dX11_check_10 rfl ?_
    refine g_istore_n (n := 12) (L' := [(2, gJ 0), (0, gA n0 0), (1, gJ a)]) X dX11_check_11 rfl (by decide) rfl rfl ?_
    have j7 : ∀ (N68 : Nat) (v5 : Int) , (0 ≤ v5 ∧ v5 ≤ 16) → (16 - v5).toNat < N68 → G p l e R_X11_check s m args below meth cd n0 D cA 3 Q 0 0 M sz 12 [(0, gA n0 0), (1, gJ a), (2, gJ v5)] [] := by
      intro N68; induction N68 with
      | zero => intro v5 rv5 hm70; exfalso; omega
      | succ N68 ih69 =>
        intro v5 rv5 hm70
        refine g_iload_n (n := 13) X 2 dX11_check_12 rfl rfl rfl ?_
        refine g_aload_n (n := 14) X 0 dX11_check_13 rfl rfl rfl ?_
        refine gg_11_0 (n := 17) (z := 1) X (by decide) (gsz hsz (by decide)) lay_0 kw_2_231 dX11_check_14 rfl (rf_0_0 I (gsz hsz (by decide))) (by decide) ?_
        obtain ⟨v71, hv71, rv71⟩ := gRd I (by decide) (gsz hsz (by decide)) rc_1_10.1
        refine gg_9_10 (n := 20) (z := v71) X (by decide) (gsz hsz (by decide)) lay_1 kw_2_127 dX11_check_17 rfl hv71 ?_
        refine g_icmp_ge (n := 23) (tgt := 73) X dX11_check_20 (by decide) (by omega) (by omega) rfl (fun c72 => ?_) (fun c72 => ?_)
        · refine g_bipush (n := 75) X dX11_check_73 (by decide +kernel) rfl ?_
          exact hq _ _ _ _ dX11_check_75 ⟨rfl, by omega⟩
        · refine g_aload_n (n := 24) X 0 dX11_check_23 rfl rfl rfl ?_
          refine gg_11_0 (n := 27) (z := 1) X (by decide) (gsz hsz (by decide)) lay_0 kw_2_231 dX11_check_24 rfl (rf_0_0 I (gsz hsz (by decide))) (by decide) ?_
          refine gg_9_7 (n := 30) (z := 23) X (by decide) (gsz hsz (by decide)) lay_1 kw_2_121 dX11_check_27 rfl (rf_1_7 I (gsz hsz (by decide))) (by decide) ?_
          refine g_iload_n (n := 31) X 1 dX11_check_30 rfl rfl rfl ?_
          refine g_iload_n (n := 32) X 2 dX11_check_31 rfl rfl rfl ?_
          refine g_callVi (n := 35) (As := [gJ a, gJ v5]) (rest := []) (cs1 := 0) (ss1 := 0) X (s_X5_wasThere a (by omega) v5 (by omega) hsz I C ) okX5_wasThere kw_5_24 ⟨kw_5_25, kw_5_26⟩ ⟨rfl, rfl⟩ ⟨Nat.le_of_ble_eq_true rfl, Nat.le_of_ble_eq_true rfl⟩ rfl (by decide) (gsz hsz (by decide)) lay_23 rfl rfl (Nat.le_of_ble_eq_true rfl) ⟨Nat.le_of_ble_eq_true rfl, Nat.le_of_ble_eq_true rfl⟩ rfl rfl dX11_check_32 rfl (fun v73 M74 P75 => ?_)
          obtain ⟨rfl, rv73⟩ := P75
          refine g_if_eq (n := 38) (tgt := 67) X dX11_check_35 (by decide) (by omega) rfl (fun c76 => ?_) (fun c76 => ?_)
          · refine g_iinc (n := 70) (w := v5 + 1) (L' := [(2, gJ (v5 + 1)), (0, gA n0 0), (1, gJ a)]) X 2 dX11_check_67 rfl rfl (by decide) rfl rfl ?_
            refine g_goto (tgt := 12) X dX11_check_70 (by decide) ?_
            refine G.sub (L' := [(0, gA n0 0), (1, gJ a), (2, gJ (v5 + 1))]) [1, 2, 0] rfl ?_
            exact ih69 (v5 + 1) (by omega) (by omega)
          · refine g_aload_n (n := 39) X 0 dX11_check_38 rfl rfl rfl ?_
            refine gg_11_0 (n := 42) (z := 1) X (by decide) (gsz hsz (by decide)) lay_0 kw_2_231 dX11_check_39 rfl (rf_0_0 I (gsz hsz (by decide))) (by decide) ?_
            refine gg_9_7 (n := 45) (z := 23) X (by decide) (gsz hsz (by decide)) lay_1 kw_2_121 dX11_check_42 rfl (rf_1_7 I (gsz hsz (by decide))) (by decide) ?_
            refine g_iload_n (n := 46) X 1 dX11_check_45 rfl rfl rfl ?_
            refine g_iload_n (n := 47) X 2 dX11_check_46 rfl rfl rfl ?_
            refine g_callVi (n := 50) (As := [gJ a, gJ v5]) (rest := []) (cs1 := 0) (ss1 := 0) X (s_X5_placeOf a (by omega) v5 (by omega) hsz I C ) okX5_placeOf kw_5_32 ⟨kw_5_33, kw_5_34⟩ ⟨rfl, rfl⟩ ⟨Nat.le_of_ble_eq_true rfl, Nat.le_of_ble_eq_true rfl⟩ rfl (by decide) (gsz hsz (by decide)) lay_23 rfl rfl (Nat.le_of_ble_eq_true rfl) ⟨Nat.le_of_ble_eq_true rfl, Nat.le_of_ble_eq_true rfl⟩ rfl rfl dX11_check_47 rfl (fun v77 M78 P79 => ?_)
            obtain ⟨rfl, rv77⟩ := P79
            refine g_aload_n (n := 51) X 0 dX11_check_50 rfl rfl rfl ?_
            refine gg_11_0 (n := 54) (z := 1) X (by decide) (gsz hsz (by decide)) lay_0 kw_2_231 dX11_check_51 rfl (rf_0_0 I (gsz hsz (by decide))) (by decide) ?_
            refine gg_9_1 (n := 57) (z := 5) X (by decide) (gsz hsz (by decide)) lay_1 kw_2_108 dX11_check_54 rfl (rf_1_1 I (gsz hsz (by decide))) (by decide) ?_
            refine g_iload_n (n := 58) X 2 dX11_check_57 rfl rfl rfl ?_
            obtain ⟨o80, ho80, ro80⟩ : ∃ o : Int, o = 31 + v5 ∧ (31 ≤ o ∧ o < 47) := ⟨_, rfl, by omega⟩
            refine g_aald6 (n := 59) (t := o80) X (by decide) (gsz hsz (by decide)) lay_5 (by omega) (by omega) (by decide) (gA5 I hsz (by omega) (by omega) (by omega)) (by omega) dX11_check_58 rfl ?_
            obtain ⟨v81, hv81, rv81⟩ := gRd I (Po0 ro80) (Posz hsz ro80) (rP_11 ro80).1
            refine gg_6_11 (n := 62) (z := v81) X (Po0 ro80) (Posz hsz ro80) (lay2_P ro80) kw_1_213 dX11_check_59 rfl hv81 ?_
            refine g_icmp_eq (n := 65) (tgt := 67) X dX11_check_62 (by decide) (by omega) (by omega) rfl (fun c82 => ?_) (fun c82 => ?_)
            · refine g_iinc (n := 70) (w := v5 + 1) (L' := [(2, gJ (v5 + 1)), (0, gA n0 0), (1, gJ a)]) X 2 dX11_check_67 rfl rfl (by decide) rfl rfl ?_
              refine g_goto (tgt := 12) X dX11_check_70 (by decide) ?_
              refine G.sub (L' := [(0, gA n0 0), (1, gJ a), (2, gJ (v5 + 1))]) [1, 2, 0] rfl ?_
              exact ih69 (v5 + 1) (by omega) (by omega)
            · refine g_iload_n (n := 66) X 2 dX11_check_65 rfl rfl rfl ?_
              exact hq _ _ _ _ dX11_check_66 ⟨rfl, by omega⟩
    refine G.sub (L' := [(0, gA n0 0), (1, gJ a), (2, gJ 0)]) [1, 2, 0] rfl ?_
    exact j7 _ 0 (by omega) (Nat.lt_succ_self _)
  · refine g_iconst (n := 9) X dX11_check_8 rfl ?_
    exact hq _ _ _ _ dX11_check_9 ⟨rfl, by omega⟩
theorem dX11_count_0 : decode cX11_count 0 = .ok (.iload_n 1, 1) := dc_27 (by decide +kernel)
theorem dX11_count_1 : decode cX11_count 1 = .ok (.tableswitch 204 0 13 #[71, 79, 87, 95, 103, 114, 122, 130, 140, 150, 160, 171, 182, 193], 71) := by decide +kernel
theorem dX11_count_72 : decode cX11_count 72 = .ok (.aload_n 0, 1) := dc_42 (by decide +kernel)
theorem dX11_count_73 : decode cX11_count 73 = .ok (.getfield 10, 3) := dc_180 0 10 (by decide +kernel)
theorem dX11_count_76 : decode cX11_count 76 = .ok (.getfield 98, 3) := dc_180 0 98 (by decide +kernel)
theorem dX11_count_79 : decode cX11_count 79 = .ok (.ireturn, 1) := dc_172 (by decide +kernel)
theorem dX11_count_80 : decode cX11_count 80 = .ok (.aload_n 0, 1) := dc_42 (by decide +kernel)
theorem dX11_count_81 : decode cX11_count 81 = .ok (.getfield 10, 3) := dc_180 0 10 (by decide +kernel)
theorem dX11_count_84 : decode cX11_count 84 = .ok (.getfield 423, 3) := dc_180 1 167 (by decide +kernel)
theorem dX11_count_87 : decode cX11_count 87 = .ok (.ireturn, 1) := dc_172 (by decide +kernel)
theorem dX11_count_88 : decode cX11_count 88 = .ok (.aload_n 0, 1) := dc_42 (by decide +kernel)
theorem dX11_count_89 : decode cX11_count 89 = .ok (.getfield 10, 3) := dc_180 0 10 (by decide +kernel)
theorem dX11_count_92 : decode cX11_count 92 = .ok (.getfield 152, 3) := dc_180 0 152 (by decide +kernel)
theorem dX11_count_95 : decode cX11_count 95 = .ok (.ireturn, 1) := dc_172 (by decide +kernel)
theorem dX11_count_96 : decode cX11_count 96 = .ok (.aload_n 0, 1) := dc_42 (by decide +kernel)
theorem dX11_count_97 : decode cX11_count 97 = .ok (.getfield 10, 3) := dc_180 0 10 (by decide +kernel)
theorem dX11_count_100 : decode cX11_count 100 = .ok (.getfield 219, 3) := dc_180 0 219 (by decide +kernel)
theorem kw_2_135 : (Jvm.Cond.fieldLink "ParishUnion" (219 : Nat) "ParishUnion$Union" "actCount" "I") ∈ gT := gT_of (tb_2 _ (List.mem_of_getElem? (i := 135) rfl)) rfl
theorem dX11_count_103 : decode cX11_count 103 = .ok (.ireturn, 1) := dc_172 (by decide +kernel)
theorem dX11_count_104 : decode cX11_count 104 = .ok (.aload_n 0, 1) := dc_42 (by decide +kernel)
theorem dX11_count_105 : decode cX11_count 105 = .ok (.getfield 10, 3) := dc_180 0 10 (by decide +kernel)
theorem dX11_count_108 : decode cX11_count 108 = .ok (.getfield 247, 3) := dc_180 0 247 (by decide +kernel)
theorem dX11_count_111 : decode cX11_count 111 = .ok (.getfield 251, 3) := dc_180 0 251 (by decide +kernel)
theorem dX11_count_114 : decode cX11_count 114 = .ok (.ireturn, 1) := dc_172 (by decide +kernel)
theorem dX11_count_115 : decode cX11_count 115 = .ok (.aload_n 0, 1) := dc_42 (by decide +kernel)
theorem dX11_count_116 : decode cX11_count 116 = .ok (.getfield 10, 3) := dc_180 0 10 (by decide +kernel)
theorem dX11_count_119 : decode cX11_count 119 = .ok (.getfield 85, 3) := dc_180 0 85 (by decide +kernel)
theorem dX11_count_122 : decode cX11_count 122 = .ok (.ireturn, 1) := dc_172 (by decide +kernel)
theorem dX11_count_123 : decode cX11_count 123 = .ok (.aload_n 0, 1) := dc_42 (by decide +kernel)
theorem dX11_count_124 : decode cX11_count 124 = .ok (.getfield 10, 3) := dc_180 0 10 (by decide +kernel)
theorem dX11_count_127 : decode cX11_count 127 = .ok (.getfield 212, 3) := dc_180 0 212 (by decide +kernel)
theorem dX11_count_130 : decode cX11_count 130 = .ok (.ireturn, 1) := dc_172 (by decide +kernel)
theorem dX11_count_131 : decode cX11_count 131 = .ok (.aload_n 0, 1) := dc_42 (by decide +kernel)
theorem dX11_count_132 : decode cX11_count 132 = .ok (.getfield 10, 3) := dc_180 0 10 (by decide +kernel)
theorem dX11_count_135 : decode cX11_count 135 = .ok (.bipush 6, 2) := dc_16 6 6 (by decide +kernel)
theorem dX11_count_137 : decode cX11_count 137 = .ok (.invokevirtual 426, 3) := dc_182 1 170 (by decide +kernel)
theorem kw_6_17 : (Jvm.Cond.methodLink "ParishUnion" (426 : Nat) ({ cls := "ParishUnion$Union", name := "personsAt", desc := "(I)I" } : Jvm.MethodName)) ∈ gT := gT_of (tb_6 _ (List.mem_of_getElem? (i := 17) rfl)) rfl
theorem kw_6_20 : (Jvm.Cond.code ({ cls := "ParishUnion$Union", name := "personsAt", desc := "(I)I" } : Jvm.MethodName) prog_11_method_7_code (4 : Nat) (Option.some Jvm.ClassFile.FieldType.int)) ∈ gT := gT_of (tb_6 _ (List.mem_of_getElem? (i := 20) rfl)) rfl
theorem okX9_personsAt : gQok yX9_personsAt cX9_personsAt 4 (Option.some Jvm.ClassFile.FieldType.int) 1 := ⟨kw_6_20, kw_1_2, by decide +kernel, by decide +kernel, by decide +kernel⟩
theorem kw_6_18 : (Jvm.Cond.instanceMethod ({ cls := "ParishUnion$Union", name := "personsAt", desc := "(I)I" } : Jvm.MethodName)) ∈ gT := gT_of (tb_6 _ (List.mem_of_getElem? (i := 18) rfl)) rfl
theorem kw_6_19 : (Jvm.Cond.selects "ParishUnion$Union" ({ cls := "ParishUnion$Union", name := "personsAt", desc := "(I)I" } : Jvm.MethodName) ({ cls := "ParishUnion$Union", name := "personsAt", desc := "(I)I" } : Jvm.MethodName)) ∈ gT := gT_of (tb_6 _ (List.mem_of_getElem? (i := 19) rfl)) rfl
theorem dX11_count_140 : decode cX11_count 140 = .ok (.ireturn, 1) := dc_172 (by decide +kernel)
theorem dX11_count_141 : decode cX11_count 141 = .ok (.aload_n 0, 1) := dc_42 (by decide +kernel)
theorem dX11_count_142 : decode cX11_count 142 = .ok (.getfield 10, 3) := dc_180 0 10 (by decide +kernel)
theorem dX11_count_145 : decode cX11_count 145 = .ok (.bipush 8, 2) := dc_16 8 8 (by decide +kernel)
theorem dX11_count_147 : decode cX11_count 147 = .ok (.invokevirtual 426, 3) := dc_182 1 170 (by decide +kernel)
theorem dX11_count_150 : decode cX11_count 150 = .ok (.ireturn, 1) := dc_172 (by decide +kernel)
theorem dX11_count_151 : decode cX11_count 151 = .ok (.aload_n 0, 1) := dc_42 (by decide +kernel)
theorem dX11_count_152 : decode cX11_count 152 = .ok (.getfield 10, 3) := dc_180 0 10 (by decide +kernel)
theorem dX11_count_155 : decode cX11_count 155 = .ok (.bipush 7, 2) := dc_16 7 7 (by decide +kernel)
theorem dX11_count_157 : decode cX11_count 157 = .ok (.invokevirtual 426, 3) := dc_182 1 170 (by decide +kernel)
theorem dX11_count_160 : decode cX11_count 160 = .ok (.ireturn, 1) := dc_172 (by decide +kernel)
theorem dX11_count_161 : decode cX11_count 161 = .ok (.aload_n 0, 1) := dc_42 (by decide +kernel)
theorem dX11_count_162 : decode cX11_count 162 = .ok (.getfield 10, 3) := dc_180 0 10 (by decide +kernel)
theorem dX11_count_165 : decode cX11_count 165 = .ok (.getfield 336, 3) := dc_180 1 80 (by decide +kernel)
theorem dX11_count_168 : decode cX11_count 168 = .ok (.getfield 340, 3) := dc_180 1 84 (by decide +kernel)
theorem dX11_count_171 : decode cX11_count 171 = .ok (.ireturn, 1) := dc_172 (by decide +kernel)
theorem dX11_count_172 : decode cX11_count 172 = .ok (.aload_n 0, 1) := dc_42 (by decide +kernel)
theorem dX11_count_173 : decode cX11_count 173 = .ok (.getfield 10, 3) := dc_180 0 10 (by decide +kernel)
theorem dX11_count_176 : decode cX11_count 176 = .ok (.getfield 279, 3) := dc_180 1 23 (by decide +kernel)
theorem dX11_count_179 : decode cX11_count 179 = .ok (.getfield 367, 3) := dc_180 1 111 (by decide +kernel)
theorem dX11_count_182 : decode cX11_count 182 = .ok (.ireturn, 1) := dc_172 (by decide +kernel)
theorem dX11_count_183 : decode cX11_count 183 = .ok (.aload_n 0, 1) := dc_42 (by decide +kernel)
theorem dX11_count_184 : decode cX11_count 184 = .ok (.getfield 10, 3) := dc_180 0 10 (by decide +kernel)
theorem dX11_count_187 : decode cX11_count 187 = .ok (.getfield 279, 3) := dc_180 1 23 (by decide +kernel)
theorem dX11_count_190 : decode cX11_count 190 = .ok (.getfield 282, 3) := dc_180 1 26 (by decide +kernel)
theorem dX11_count_193 : decode cX11_count 193 = .ok (.ireturn, 1) := dc_172 (by decide +kernel)
theorem dX11_count_194 : decode cX11_count 194 = .ok (.aload_n 0, 1) := dc_42 (by decide +kernel)
theorem dX11_count_195 : decode cX11_count 195 = .ok (.getfield 10, 3) := dc_180 0 10 (by decide +kernel)
theorem dX11_count_198 : decode cX11_count 198 = .ok (.getfield 279, 3) := dc_180 1 23 (by decide +kernel)
theorem dX11_count_201 : decode cX11_count 201 = .ok (.getfield 288, 3) := dc_180 1 32 (by decide +kernel)
theorem dX11_count_204 : decode cX11_count 204 = .ok (.ireturn, 1) := dc_172 (by decide +kernel)
theorem dX11_count_205 : decode cX11_count 205 = .ok (.iconst (-1), 1) := dc_2 (by decide +kernel)
theorem dX11_count_206 : decode cX11_count 206 = .ok (.ireturn, 1) := dc_172 (by decide +kernel)
abbrev R_X11_count : Room := { frames := 1, cells := 0, slots := 0, locals := 23 }
set_option maxRecDepth 100000 in
set_option maxHeartbeats 4000000 in
theorem s_X11_count {l : Launch} {n0 : Nat} {D : va_G} {cA : Nat → ClassId} {M : gM} (a : Int) (r_a : -2147483648 ≤ a ∧ a ≤ 2147483647) {sz : Nat} (hsz : 206 ≤ sz) (I : gI sz M) (C : gC sz M)   : Met l yX11_count (gWsOf yX11_count cX11_count 2 (Option.some Jvm.ClassFile.FieldType.int)) R_X11_count (gPc n0 D cA [gA n0 0, gJ a] M sz) (gQi n0 D cA sz (fun z M1 => M = M1 ∧ (-2147483648 ≤ z ∧ z ≤ 2147483647))) 0 0 (fun q => n0 ≤ q) := by
  refine gMetI [gA n0 0, gJ a] (by decide) (Nat.le_of_ble_eq_true rfl) ⟨rfl, rfl⟩ ?_
  intro p e s m args below meth cd Q X hq
  have X : gCx p s m args meth cd n0 D cA "ParishUnion" cX11_count 2 := X
  show G p l e R_X11_count s m args below meth cd n0 D cA 2 Q 0 0 M sz 0 [(0, gA n0 0), (1, gJ a)] []
  refine g_iload_n (n := 1) X 1 dX11_count_0 rfl rfl rfl ?_
  by_cases c1 : a = 0
  · refine g_tableIn (tgt := 72) X 0 dX11_count_1 (by omega) (by omega) (by omega) (by omega) rfl (by decide) ?_
    refine g_aload_n (n := 73) X 0 dX11_count_72 rfl rfl rfl ?_
    refine gg_11_0 (n := 76) (z := 1) X (by decide) (gsz hsz (by decide)) lay_0 kw_2_231 dX11_count_73 rfl (rf_0_0 I (gsz hsz (by decide))) (by decide) ?_
    obtain ⟨v2, hv2, rv2⟩ := gRd I (by decide) (gsz hsz (by decide)) rc_1_10.1
    refine gg_9_10 (n := 79) (z := v2) X (by decide) (gsz hsz (by decide)) lay_1 kw_2_127 dX11_count_76 rfl hv2 ?_
    exact hq _ _ _ _ dX11_count_79 ⟨rfl, by omega⟩
  by_cases c3 : a = 1
  · refine g_tableIn (tgt := 80) X 1 dX11_count_1 (by omega) (by omega) (by omega) (by omega) rfl (by decide) ?_
    refine g_aload_n (n := 81) X 0 dX11_count_80 rfl rfl rfl ?_
    refine gg_11_0 (n := 84) (z := 1) X (by decide) (gsz hsz (by decide)) lay_0 kw_2_231 dX11_count_81 rfl (rf_0_0 I (gsz hsz (by decide))) (by decide) ?_
    obtain ⟨v4, hv4, rv4⟩ := gRd I (by decide) (gsz hsz (by decide)) rc_1_11.1
    refine gg_9_11 (n := 87) (z := v4) X (by decide) (gsz hsz (by decide)) lay_1 kw_2_130 dX11_count_84 rfl hv4 ?_
    exact hq _ _ _ _ dX11_count_87 ⟨rfl, by omega⟩
  by_cases c5 : a = 2
  · refine g_tableIn (tgt := 88) X 2 dX11_count_1 (by omega) (by omega) (by omega) (by omega) rfl (by decide) ?_
    refine g_aload_n (n := 89) X 0 dX11_count_88 rfl rfl rfl ?_
    refine gg_11_0 (n := 92) (z := 1) X (by decide) (gsz hsz (by decide)) lay_0 kw_2_231 dX11_count_89 rfl (rf_0_0 I (gsz hsz (by decide))) (by decide) ?_
    obtain ⟨v6, hv6, rv6⟩ := gRd I (by decide) (gsz hsz (by decide)) rc_1_12.1
    refine gg_9_12 (n := 95) (z := v6) X (by decide) (gsz hsz (by decide)) lay_1 kw_2_133 dX11_count_92 rfl hv6 ?_
    exact hq _ _ _ _ dX11_count_95 ⟨rfl, by omega⟩
  by_cases c7 : a = 3
  · refine g_tableIn (tgt := 96) X 3 dX11_count_1 (by omega) (by omega) (by omega) (by omega) rfl (by decide) ?_
    refine g_aload_n (n := 97) X 0 dX11_count_96 rfl rfl rfl ?_
    refine gg_11_0 (n := 100) (z := 1) X (by decide) (gsz hsz (by decide)) lay_0 kw_2_231 dX11_count_97 rfl (rf_0_0 I (gsz hsz (by decide))) (by decide) ?_
    obtain ⟨v8, hv8, rv8⟩ := gRd I (by decide) (gsz hsz (by decide)) rc_1_13.1
    refine gg_9_13 (n := 103) (z := v8) X (by decide) (gsz hsz (by decide)) lay_1 kw_2_135 dX11_count_100 rfl hv8 ?_
    exact hq _ _ _ _ dX11_count_103 ⟨rfl, by omega⟩
  by_cases c9 : a = 4
  · refine g_tableIn (tgt := 104) X 4 dX11_count_1 (by omega) (by omega) (by omega) (by omega) rfl (by decide) ?_
    refine g_aload_n (n := 105) X 0 dX11_count_104 rfl rfl rfl ?_
    refine gg_11_0 (n := 108) (z := 1) X (by decide) (gsz hsz (by decide)) lay_0 kw_2_231 dX11_count_105 rfl (rf_0_0 I (gsz hsz (by decide))) (by decide) ?_
    refine gg_9_5 (n := 111) (z := 9) X (by decide) (gsz hsz (by decide)) lay_1 kw_2_117 dX11_count_108 rfl (rf_1_5 I (gsz hsz (by decide))) (by decide) ?_
    obtain ⟨v10, hv10, rv10⟩ := gRd I (by decide) (gsz hsz (by decide)) rc_9_5.1
    refine gg_4_5 (n := 114) (z := v10) X (by decide) (gsz hsz (by decide)) lay_9 kw_1_73 dX11_count_111 rfl hv10 ?_
    exact hq _ _ _ _ dX11_count_114 ⟨rfl, by omega⟩
  by_cases c11 : a = 5
  · refine g_tableIn (tgt := 115) X 5 dX11_count_1 (by omega) (by omega) (by omega) (by omega) rfl (by decide) ?_
    refine g_aload_n (n := 116) X 0 dX11_count_115 rfl rfl rfl ?_
    refine gg_11_0 (n := 119) (z := 1) X (by decide) (gsz hsz (by decide)) lay_0 kw_2_231 dX11_count_116 rfl (rf_0_0 I (gsz hsz (by decide))) (by decide) ?_
    obtain ⟨v12, hv12, rv12⟩ := gRd I (by decide) (gsz hsz (by decide)) rc_1_15.1
    refine gg_9_15 (n := 122) (z := v12) X (by decide) (gsz hsz (by decide)) lay_1 kw_2_139 dX11_count_119 rfl hv12 ?_
    exact hq _ _ _ _ dX11_count_122 ⟨rfl, by omega⟩
  by_cases c13 : a = 6
  · refine g_tableIn (tgt := 123) X 6 dX11_count_1 (by omega) (by omega) (by omega) (by omega) rfl (by decide) ?_
    refine g_aload_n (n := 124) X 0 dX11_count_123 rfl rfl rfl ?_
    refine gg_11_0 (n := 127) (z := 1) X (by decide) (gsz hsz (by decide)) lay_0 kw_2_231 dX11_count_124 rfl (rf_0_0 I (gsz hsz (by decide))) (by decide) ?_
    obtain ⟨v14, hv14, rv14⟩ := gRd I (by decide) (gsz hsz (by decide)) rc_1_14.1
    refine gg_9_14 (n := 130) (z := v14) X (by decide) (gsz hsz (by decide)) lay_1 kw_2_137 dX11_count_127 rfl hv14 ?_
    exact hq _ _ _ _ dX11_count_130 ⟨rfl, by omega⟩
  by_cases c15 : a = 7
  · refine g_tableIn (tgt := 131) X 7 dX11_count_1 (by omega) (by omega) (by omega) (by omega) rfl (by decide) ?_
    refine g_aload_n (n := 132) X 0 dX11_count_131 rfl rfl rfl ?_
    refine gg_11_0 (n := 135) (z := 1) X (by decide) (gsz hsz (by decide)) lay_0 kw_2_231 dX11_count_132 rfl (rf_0_0 I (gsz hsz (by decide))) (by decide) ?_
    refine g_bipush (n := 137) X dX11_count_135 (by decide +kernel) rfl ?_
    refine g_callVi (n := 140) (As := [gJ 6]) (rest := []) (cs1 := 0) (ss1 := 0) X (s_X9_personsAt 6 (by omega) hsz I C ) okX9_personsAt kw_6_17 ⟨kw_6_18, kw_6_19⟩ ⟨rfl, rfl⟩ ⟨Nat.le_of_ble_eq_true rfl, Nat.le_of_ble_eq_true rfl⟩ rfl (by decide) (gsz hsz (by decide)) lay_1 rfl rfl (Nat.le_of_ble_eq_true rfl) ⟨Nat.le_of_ble_eq_true rfl, Nat.le_of_ble_eq_true rfl⟩ rfl rfl dX11_count_137 rfl (fun v16 M17 P18 => ?_)
    obtain ⟨rfl, rv16⟩ := P18
    exact hq _ _ _ _ dX11_count_140 ⟨rfl, by omega⟩
  by_cases c19 : a = 8
  · refine g_tableIn (tgt := 141) X 8 dX11_count_1 (by omega) (by omega) (by omega) (by omega) rfl (by decide) ?_
    refine g_aload_n (n := 142) X 0 dX11_count_141 rfl rfl rfl ?_
    refine gg_11_0 (n := 145) (z := 1) X (by decide) (gsz hsz (by decide)) lay_0 kw_2_231 dX11_count_142 rfl (rf_0_0 I (gsz hsz (by decide))) (by decide) ?_
    refine g_bipush (n := 147) X dX11_count_145 (by decide +kernel) rfl ?_
    refine g_callVi (n := 150) (As := [gJ 8]) (rest := []) (cs1 := 0) (ss1 := 0) X (s_X9_personsAt 8 (by omega) hsz I C ) okX9_personsAt kw_6_17 ⟨kw_6_18, kw_6_19⟩ ⟨rfl, rfl⟩ ⟨Nat.le_of_ble_eq_true rfl, Nat.le_of_ble_eq_true rfl⟩ rfl (by decide) (gsz hsz (by decide)) lay_1 rfl rfl (Nat.le_of_ble_eq_true rfl) ⟨Nat.le_of_ble_eq_true rfl, Nat.le_of_ble_eq_true rfl⟩ rfl rfl dX11_count_147 rfl (fun v20 M21 P22 => ?_)
    obtain ⟨rfl, rv20⟩ := P22
    exact hq _ _ _ _ dX11_count_150 ⟨rfl, by omega⟩
  by_cases c23 : a = 9
  · refine g_tableIn (tgt := 151) X 9 dX11_count_1 (by omega) (by omega) (by omega) (by omega) rfl (by decide) ?_
    refine g_aload_n (n := 152) X 0 dX11_count_151 rfl rfl rfl ?_
    refine gg_11_0 (n := 155) (z := 1) X (by decide) (gsz hsz (by decide)) lay_0 kw_2_231 dX11_count_152 rfl (rf_0_0 I (gsz hsz (by decide))) (by decide) ?_
    refine g_bipush (n := 157) X dX11_count_155 (by decide +kernel) rfl ?_
    refine g_callVi (n := 160) (As := [gJ 7]) (rest := []) (cs1 := 0) (ss1 := 0) X (s_X9_personsAt 7 (by omega) hsz I C ) okX9_personsAt kw_6_17 ⟨kw_6_18, kw_6_19⟩ ⟨rfl, rfl⟩ ⟨Nat.le_of_ble_eq_true rfl, Nat.le_of_ble_eq_true rfl⟩ rfl (by decide) (gsz hsz (by decide)) lay_1 rfl rfl (Nat.le_of_ble_eq_true rfl) ⟨Nat.le_of_ble_eq_true rfl, Nat.le_of_ble_eq_true rfl⟩ rfl rfl dX11_count_157 rfl (fun v24 M25 P26 => ?_)
    obtain ⟨rfl, rv24⟩ := P26
    exact hq _ _ _ _ dX11_count_160 ⟨rfl, by omega⟩
  by_cases c27 : a = 10
  · refine g_tableIn (tgt := 161) X 10 dX11_count_1 (by omega) (by omega) (by omega) (by omega) rfl (by decide) ?_
    refine g_aload_n (n := 162) X 0 dX11_count_161 rfl rfl rfl ?_
    refine gg_11_0 (n := 165) (z := 1) X (by decide) (gsz hsz (by decide)) lay_0 kw_2_231 dX11_count_162 rfl (rf_0_0 I (gsz hsz (by decide))) (by decide) ?_
    refine gg_9_8 (n := 168) (z := 26) X (by decide) (gsz hsz (by decide)) lay_1 kw_2_123 dX11_count_165 rfl (rf_1_8 I (gsz hsz (by decide))) (by decide) ?_
    obtain ⟨v28, hv28, rv28⟩ := gRd I (by decide) (gsz hsz (by decide)) rc_26_3.1
    refine gg_10_3 (n := 171) (z := v28) X (by decide) (gsz hsz (by decide)) lay_26 kw_1_160 dX11_count_168 rfl hv28 ?_
    exact hq _ _ _ _ dX11_count_171 ⟨rfl, by omega⟩
  by_cases c29 : a = 11
  · refine g_tableIn (tgt := 172) X 11 dX11_count_1 (by omega) (by omega) (by omega) (by omega) rfl (by decide) ?_
    refine g_aload_n (n := 173) X 0 dX11_count_172 rfl rfl rfl ?_
    refine gg_11_0 (n := 176) (z := 1) X (by decide) (gsz hsz (by decide)) lay_0 kw_2_231 dX11_count_173 rfl (rf_0_0 I (gsz hsz (by decide))) (by decide) ?_
    refine gg_9_6 (n := 179) (z := 15) X (by decide) (gsz hsz (by decide)) lay_1 kw_2_119 dX11_count_176 rfl (rf_1_6 I (gsz hsz (by decide))) (by decide) ?_
    obtain ⟨v30, hv30, rv30⟩ := gRd I (by decide) (gsz hsz (by decide)) rc_15_7.1
    refine gg_2_7 (n := 182) (z := v30) X (by decide) (gsz hsz (by decide)) lay_15 kw_1_108 dX11_count_179 rfl hv30 ?_
    exact hq _ _ _ _ dX11_count_182 ⟨rfl, by omega⟩
  by_cases c31 : a = 12
  · refine g_tableIn (tgt := 183) X 12 dX11_count_1 (by omega) (by omega) (by omega) (by omega) rfl (by decide) ?_
    refine g_aload_n (n := 184) X 0 dX11_count_183 rfl rfl rfl ?_
    refine gg_11_0 (n := 187) (z := 1) X (by decide) (gsz hsz (by decide)) lay_0 kw_2_231 dX11_count_184 rfl (rf_0_0 I (gsz hsz (by decide))) (by decide) ?_
    refine gg_9_6 (n := 190) (z := 15) X (by decide) (gsz hsz (by decide)) lay_1 kw_2_119 dX11_count_187 rfl (rf_1_6 I (gsz hsz (by decide))) (by decide) ?_
    obtain ⟨v32, hv32, rv32⟩ := gRd I (by decide) (gsz hsz (by decide)) rc_15_8.1
    refine gg_2_8 (n := 193) (z := v32) X (by decide) (gsz hsz (by decide)) lay_15 kw_1_111 dX11_count_190 rfl hv32 ?_
    exact hq _ _ _ _ dX11_count_193 ⟨rfl, by omega⟩
  by_cases c33 : a = 13
  · refine g_tableIn (tgt := 194) X 13 dX11_count_1 (by omega) (by omega) (by omega) (by omega) rfl (by decide) ?_
    refine g_aload_n (n := 195) X 0 dX11_count_194 rfl rfl rfl ?_
    refine gg_11_0 (n := 198) (z := 1) X (by decide) (gsz hsz (by decide)) lay_0 kw_2_231 dX11_count_195 rfl (rf_0_0 I (gsz hsz (by decide))) (by decide) ?_
    refine gg_9_6 (n := 201) (z := 15) X (by decide) (gsz hsz (by decide)) lay_1 kw_2_119 dX11_count_198 rfl (rf_1_6 I (gsz hsz (by decide))) (by decide) ?_
    obtain ⟨v34, hv34, rv34⟩ := gRd I (by decide) (gsz hsz (by decide)) rc_15_9.1
    refine gg_2_9 (n := 204) (z := v34) X (by decide) (gsz hsz (by decide)) lay_15 kw_1_114 dX11_count_201 rfl hv34 ?_
    exact hq _ _ _ _ dX11_count_204 ⟨rfl, by omega⟩
  refine g_tableOut (tgt := 205) X dX11_count_1 (by omega) (by omega) (by decide) ?_
  refine g_iconst (n := 206) X dX11_count_205 rfl ?_
  exact hq _ _ _ _ dX11_count_206 ⟨rfl, by omega⟩
theorem dX11_owed_0 : decode cX11_owed 0 = .ok (.iload_n 1, 1) := dc_27 (by decide +kernel)
theorem dX11_owed_1 : decode cX11_owed 1 = .ok (.invokestatic 58, 3) := dc_184 0 58 (by decide +kernel)
theorem dX11_owed_4 : decode cX11_owed 4 = .ok (.ifCond .eq 28, 3) := dc_153 0 28 28 (by decide +kernel)
theorem dX11_owed_32 : decode cX11_owed 32 = .ok (.iconst (-1), 1) := dc_2 (by decide +kernel)
theorem dX11_owed_33 : decode cX11_owed 33 = .ok (.ireturn, 1) := dc_172 (by decide +kernel)
theorem dX11_owed_7 : decode cX11_owed 7 = .ok (.aload_n 0, 1) := dc_42 (by decide +kernel)
theorem dX11_owed_8 : decode cX11_owed 8 = .ok (.iload_n 2, 1) := dc_28 (by decide +kernel)
theorem dX11_owed_9 : decode cX11_owed 9 = .ok (.invokevirtual 301, 3) := dc_182 1 45 (by decide +kernel)
theorem dX11_owed_12 : decode cX11_owed 12 = .ok (.ifCond .eq 20, 3) := dc_153 0 20 20 (by decide +kernel)
theorem dX11_owed_15 : decode cX11_owed 15 = .ok (.aload_n 0, 1) := dc_42 (by decide +kernel)
theorem dX11_owed_16 : decode cX11_owed 16 = .ok (.iload_n 3, 1) := dc_29 (by decide +kernel)
theorem dX11_owed_17 : decode cX11_owed 17 = .ok (.invokevirtual 301, 3) := dc_182 1 45 (by decide +kernel)
theorem dX11_owed_20 : decode cX11_owed 20 = .ok (.ifCond .eq 12, 3) := dc_153 0 12 12 (by decide +kernel)
theorem dX11_owed_23 : decode cX11_owed 23 = .ok (.aload_n 0, 1) := dc_42 (by decide +kernel)
theorem dX11_owed_24 : decode cX11_owed 24 = .ok (.iload 4, 2) := dc_21 4 (by decide +kernel)
theorem dX11_owed_26 : decode cX11_owed 26 = .ok (.invokevirtual 187, 3) := dc_182 0 187 (by decide +kernel)
theorem dX11_owed_29 : decode cX11_owed 29 = .ok (.ifCond .ne 5, 3) := dc_154 0 5 5 (by decide +kernel)
theorem dX11_owed_34 : decode cX11_owed 34 = .ok (.iload_n 2, 1) := dc_28 (by decide +kernel)
theorem dX11_owed_35 : decode cX11_owed 35 = .ok (.iload_n 3, 1) := dc_29 (by decide +kernel)
theorem dX11_owed_36 : decode cX11_owed 36 = .ok (.if_icmp .le 6, 3) := dc_164 0 6 6 (by decide +kernel)
theorem dX11_owed_42 : decode cX11_owed 42 = .ok (.aload_n 0, 1) := dc_42 (by decide +kernel)
theorem dX11_owed_43 : decode cX11_owed 43 = .ok (.getfield 19, 3) := dc_180 0 19 (by decide +kernel)
theorem dX11_owed_46 : decode cX11_owed 46 = .ok (.aload_n 0, 1) := dc_42 (by decide +kernel)
theorem dX11_owed_47 : decode cX11_owed 47 = .ok (.getfield 10, 3) := dc_180 0 10 (by decide +kernel)
theorem dX11_owed_50 : decode cX11_owed 50 = .ok (.iload 4, 2) := dc_21 4 (by decide +kernel)
theorem dX11_owed_52 : decode cX11_owed 52 = .ok (.invokevirtual 190, 3) := dc_182 0 190 (by decide +kernel)
theorem dX11_owed_55 : decode cX11_owed 55 = .ok (.iconst 0, 1) := dc_3 (by decide +kernel)
theorem dX11_owed_56 : decode cX11_owed 56 = .ok (.istore 5, 2) := dc_54 5 (by decide +kernel)
theorem dX11_owed_58 : decode cX11_owed 58 = .ok (.iload_n 2, 1) := dc_28 (by decide +kernel)
theorem dX11_owed_59 : decode cX11_owed 59 = .ok (.istore 6, 2) := dc_54 6 (by decide +kernel)
theorem dX11_owed_61 : decode cX11_owed 61 = .ok (.iload 6, 2) := dc_21 6 (by decide +kernel)
theorem dX11_owed_63 : decode cX11_owed 63 = .ok (.iload_n 3, 1) := dc_29 (by decide +kernel)
theorem dX11_owed_64 : decode cX11_owed 64 = .ok (.if_icmp .gt 80, 3) := dc_163 0 80 80 (by decide +kernel)
theorem dX11_owed_144 : decode cX11_owed 144 = .ok (.iload 5, 2) := dc_21 5 (by decide +kernel)
theorem dX11_owed_146 : decode cX11_owed 146 = .ok (.aload_n 0, 1) := dc_42 (by decide +kernel)
theorem dX11_owed_147 : decode cX11_owed 147 = .ok (.getfield 10, 3) := dc_180 0 10 (by decide +kernel)
theorem dX11_owed_150 : decode cX11_owed 150 = .ok (.getfield 279, 3) := dc_180 1 23 (by decide +kernel)
theorem dX11_owed_153 : decode cX11_owed 153 = .ok (.getfield 288, 3) := dc_180 1 32 (by decide +kernel)
theorem dX11_owed_156 : decode cX11_owed 156 = .ok (.imul, 1) := dc_104 (by decide +kernel)
theorem dX11_owed_157 : decode cX11_owed 157 = .ok (.ireturn, 1) := dc_172 (by decide +kernel)
theorem dX11_owed_67 : decode cX11_owed 67 = .ok (.iconst 0, 1) := dc_3 (by decide +kernel)
theorem dX11_owed_68 : decode cX11_owed 68 = .ok (.istore 7, 2) := dc_54 7 (by decide +kernel)
theorem dX11_owed_70 : decode cX11_owed 70 = .ok (.iload 7, 2) := dc_21 7 (by decide +kernel)
theorem dX11_owed_72 : decode cX11_owed 72 = .ok (.aload_n 0, 1) := dc_42 (by decide +kernel)
theorem dX11_owed_73 : decode cX11_owed 73 = .ok (.getfield 10, 3) := dc_180 0 10 (by decide +kernel)
theorem dX11_owed_76 : decode cX11_owed 76 = .ok (.getfield 98, 3) := dc_180 0 98 (by decide +kernel)
theorem dX11_owed_79 : decode cX11_owed 79 = .ok (.if_icmp .ge 59, 3) := dc_162 0 59 59 (by decide +kernel)
theorem dX11_owed_138 : decode cX11_owed 138 = .ok (.iinc 6 1, 3) := dc_132 6 1 1 (by decide +kernel)
theorem dX11_owed_141 : decode cX11_owed 141 = .ok (.goto (-80), 3) := dc_167 255 176 (-80) (by decide +kernel)
theorem dX11_owed_82 : decode cX11_owed 82 = .ok (.aload_n 0, 1) := dc_42 (by decide +kernel)
theorem dX11_owed_83 : decode cX11_owed 83 = .ok (.getfield 10, 3) := dc_180 0 10 (by decide +kernel)
theorem dX11_owed_86 : decode cX11_owed 86 = .ok (.getfield 307, 3) := dc_180 1 51 (by decide +kernel)
theorem dX11_owed_89 : decode cX11_owed 89 = .ok (.iload 6, 2) := dc_21 6 (by decide +kernel)
theorem dX11_owed_91 : decode cX11_owed 91 = .ok (.iload 7, 2) := dc_21 7 (by decide +kernel)
theorem dX11_owed_93 : decode cX11_owed 93 = .ok (.invokevirtual 322, 3) := dc_182 1 66 (by decide +kernel)
theorem dX11_owed_96 : decode cX11_owed 96 = .ok (.istore 8, 2) := dc_54 8 (by decide +kernel)
theorem dX11_owed_98 : decode cX11_owed 98 = .ok (.iload 8, 2) := dc_21 8 (by decide +kernel)
theorem dX11_owed_100 : decode cX11_owed 100 = .ok (.ifCond .le 32, 3) := dc_158 0 32 32 (by decide +kernel)
theorem dX11_owed_132 : decode cX11_owed 132 = .ok (.iinc 7 1, 3) := dc_132 7 1 1 (by decide +kernel)
theorem dX11_owed_135 : decode cX11_owed 135 = .ok (.goto (-65), 3) := dc_167 255 191 (-65) (by decide +kernel)
theorem dX11_owed_103 : decode cX11_owed 103 = .ok (.aload_n 0, 1) := dc_42 (by decide +kernel)
theorem dX11_owed_104 : decode cX11_owed 104 = .ok (.getfield 19, 3) := dc_180 0 19 (by decide +kernel)
theorem dX11_owed_107 : decode cX11_owed 107 = .ok (.aload_n 0, 1) := dc_42 (by decide +kernel)
theorem dX11_owed_108 : decode cX11_owed 108 = .ok (.getfield 10, 3) := dc_180 0 10 (by decide +kernel)
theorem dX11_owed_111 : decode cX11_owed 111 = .ok (.iload 7, 2) := dc_21 7 (by decide +kernel)
theorem dX11_owed_113 : decode cX11_owed 113 = .ok (.iload 6, 2) := dc_21 6 (by decide +kernel)
theorem dX11_owed_115 : decode cX11_owed 115 = .ok (.ldc2_w 334, 3) := dc_20 1 78 (by decide +kernel)
theorem dX11_owed_118 : decode cX11_owed 118 = .ok (.invokevirtual 198, 3) := dc_182 0 198 (by decide +kernel)
theorem dX11_owed_121 : decode cX11_owed 121 = .ok (.iload_n 1, 1) := dc_27 (by decide +kernel)
theorem dX11_owed_122 : decode cX11_owed 122 = .ok (.if_icmp .ne 10, 3) := dc_160 0 10 10 (by decide +kernel)
theorem dX11_owed_125 : decode cX11_owed 125 = .ok (.iload 5, 2) := dc_21 5 (by decide +kernel)
theorem dX11_owed_127 : decode cX11_owed 127 = .ok (.iload 8, 2) := dc_21 8 (by decide +kernel)
theorem dX11_owed_129 : decode cX11_owed 129 = .ok (.iadd, 1) := dc_96 (by decide +kernel)
theorem dX11_owed_130 : decode cX11_owed 130 = .ok (.istore 5, 2) := dc_54 5 (by decide +kernel)
theorem dX11_owed_39 : decode cX11_owed 39 = .ok (.bipush (-2), 2) := dc_16 254 (-2) (by decide +kernel)
theorem dX11_owed_41 : decode cX11_owed 41 = .ok (.ireturn, 1) := dc_172 (by decide +kernel)
abbrev R_X11_owed : Room := { frames := 6, cells := 0, slots := 0, locals := 167 }
set_option maxRecDepth 100000 in
set_option maxHeartbeats 4000000 in
theorem s_X11_owed {l : Launch} {n0 : Nat} {D : va_G} {cA : Nat → ClassId} {M : gM} (a : Int) (r_a : -2147483648 ≤ a ∧ a ≤ 2147483647) (b : Int) (r_b : -2147483648 ≤ b ∧ b ≤ 2147483647) (c : Int) (r_c : -2147483648 ≤ c ∧ c ≤ 2147483647) (d : Int) (r_d : -2147483648 ≤ d ∧ d ≤ 2147483647) {sz : Nat} (hsz : 206 ≤ sz) (I : gI sz M) (C : gC sz M)   : Met l yX11_owed (gWsOf yX11_owed cX11_owed 9 (Option.some Jvm.ClassFile.FieldType.int)) R_X11_owed (gPc n0 D cA [gA n0 0, gJ a, gJ b, gJ c, gJ d] M sz) (gQi n0 D cA sz (fun z M1 => (-2147483648 ≤ z ∧ z ≤ 2147483647) ∧ gI sz M1 ∧ gC sz M1 ∧ gFr 33554432 M M1)) 0 0 (fun q => n0 ≤ q) := by
  refine gMetI [gA n0 0, gJ a, gJ b, gJ c, gJ d] (by decide) (Nat.le_of_ble_eq_true rfl) ⟨rfl, rfl⟩ ?_
  intro p e s m args below meth cd Q X hq
  have X : gCx p s m args meth cd n0 D cA "ParishUnion" cX11_owed 9 := X
  show G p l e R_X11_owed s m args below meth cd n0 D cA 9 Q 0 0 M sz 0 [(0, gA n0 0), (1, gJ a), (2, gJ b), (3, gJ c), (4, gJ d)] []
  refine g_iload_n (n := 1) X 1 dX11_owed_0 rfl rfl rfl ?_
  refine g_callSi (n := 4) (As := [gJ a]) (rest := []) (cs1 := 0) (ss1 := 0) X (s_X11_isParish a (by omega) hsz I C ) okX11_isParish kw_3_26 kw_3_27 ⟨rfl, rfl⟩ ⟨Nat.le_of_ble_eq_true rfl, Nat.le_of_ble_eq_true rfl⟩ rfl rfl (Nat.le_of_ble_eq_true rfl) ⟨Nat.le_of_ble_eq_true rfl, Nat.le_of_ble_eq_true rfl⟩ rfl rfl dX11_owed_1 rfl (fun v1 M2 P3 => ?_)
  obtain ⟨rfl, rv1, xv1⟩ := P3
  refine g_if_eq (n := 7) (tgt := 32) X dX11_owed_4 (by decide) (by omega) rfl (fun c4 => ?_) (fun c4 => ?_)
  · refine g_iconst (n := 33) X dX11_owed_32 rfl ?_
    exact hq _ _ _ _ dX11_owed_33 ⟨by omega, I, C, gFr.rf⟩
  · refine g_aload_n (n := 8) X 0 dX11_owed_7 rfl rfl rfl ?_
    refine g_iload_n (n := 9) X 2 dX11_owed_8 rfl rfl rfl ?_
    refine g_callVi (n := 12) (As := [gJ b]) (rest := []) (cs1 := 0) (ss1 := 0) X (s_X11_isGone b (by omega) hsz I C ) okX11_isGone kw_5_11 ⟨kw_5_13, kw_0_28⟩ ⟨rfl, rfl⟩ ⟨Nat.le_of_ble_eq_true rfl, Nat.le_of_ble_eq_true rfl⟩ rfl (by decide) (gsz hsz (by decide)) lay_0 rfl rfl (Nat.le_of_ble_eq_true rfl) ⟨Nat.le_of_ble_eq_true rfl, Nat.le_of_ble_eq_true rfl⟩ rfl rfl dX11_owed_9 rfl (fun v5 M6 P7 => ?_)
    obtain ⟨rfl, rv5, xv5⟩ := P7
    refine g_if_eq (n := 15) (tgt := 32) X dX11_owed_12 (by decide) (by omega) rfl (fun c8 => ?_) (fun c8 => ?_)
    · refine g_iconst (n := 33) X dX11_owed_32 rfl ?_
      exact hq _ _ _ _ dX11_owed_33 ⟨by omega, I, C, gFr.rf⟩
    · refine g_aload_n (n := 16) X 0 dX11_owed_15 rfl rfl rfl ?_
      refine g_iload_n (n := 17) X 3 dX11_owed_16 rfl rfl rfl ?_
      refine g_callVi (n := 20) (As := [gJ c]) (rest := []) (cs1 := 0) (ss1 := 0) X (s_X11_isGone c (by omega) hsz I C ) okX11_isGone kw_5_11 ⟨kw_5_13, kw_0_28⟩ ⟨rfl, rfl⟩ ⟨Nat.le_of_ble_eq_true rfl, Nat.le_of_ble_eq_true rfl⟩ rfl (by decide) (gsz hsz (by decide)) lay_0 rfl rfl (Nat.le_of_ble_eq_true rfl) ⟨Nat.le_of_ble_eq_true rfl, Nat.le_of_ble_eq_true rfl⟩ rfl rfl dX11_owed_17 rfl (fun v9 M10 P11 => ?_)
      obtain ⟨rfl, rv9, xv9⟩ := P11
      refine g_if_eq (n := 23) (tgt := 32) X dX11_owed_20 (by decide) (by omega) rfl (fun c12 => ?_) (fun c12 => ?_)
      · refine g_iconst (n := 33) X dX11_owed_32 rfl ?_
        exact hq _ _ _ _ dX11_owed_33 ⟨by omega, I, C, gFr.rf⟩
      · refine g_aload_n (n := 24) X 0 dX11_owed_23 rfl rfl rfl ?_
        refine g_iload (n := 26) X 4 dX11_owed_24 rfl rfl ?_
        refine g_callVi (n := 29) (As := [gJ d]) (rest := []) (cs1 := 0) (ss1 := 0) X (s_X11_isEntryCount d (by omega) hsz I C ) okX11_isEntryCount kw_3_129 ⟨kw_3_131, kw_0_2⟩ ⟨rfl, rfl⟩ ⟨Nat.le_of_ble_eq_true rfl, Nat.le_of_ble_eq_true rfl⟩ rfl (by decide) (gsz hsz (by decide)) lay_0 rfl rfl (Nat.le_of_ble_eq_true rfl) ⟨Nat.le_of_ble_eq_true rfl, Nat.le_of_ble_eq_true rfl⟩ rfl rfl dX11_owed_26 rfl (fun v13 M14 P15 => ?_)
        obtain ⟨rfl, rv13, xv13⟩ := P15
        refine g_if_ne (n := 32) (tgt := 34) X dX11_owed_29 (by decide) (by omega) rfl (fun c16 => ?_) (fun c16 => ?_)
        · refine g_iload_n (n := 35) X 2 dX11_owed_34 rfl rfl rfl ?_
          refine g_iload_n (n := 36) X 3 dX11_owed_35 rfl rfl rfl ?_
          refine g_icmp_le (n := 39) (tgt := 42) X dX11_owed_36 (by decide) (by omega) (by omega) rfl (fun c17 => ?_) (fun c17 => ?_)
          · refine g_aload_n (n := 43) X 0 dX11_owed_42 rfl rfl rfl ?_
            refine gg_11_1 (n := 46) (z := 153) X (by decide) (gsz hsz (by decide)) lay_0 kw_2_232 dX11_owed_43 rfl (rf_0_1 I (gsz hsz (by decide))) (by decide) ?_
            refine g_aload_n (n := 47) X 0 dX11_owed_46 rfl rfl rfl ?_
            refine gg_11_0 (n := 50) (z := 1) X (by decide) (gsz hsz (by decide)) lay_0 kw_2_231 dX11_owed_47 rfl (rf_0_0 I (gsz hsz (by decide))) (by decide) ?_
            refine g_iload (n := 52) X 4 dX11_owed_50 rfl rfl ?_
            refine g_callVv (n := 55) (As := [gA n0 1, gJ d]) (rest := []) (cs1 := 0) (ss1 := 0) X (s_X1_prepare d (by omega) hsz I C ) okX1_prepare kw_3_133 ⟨kw_3_134, kw_3_135⟩ ⟨rfl, rfl⟩ ⟨Nat.le_of_ble_eq_true rfl, Nat.le_of_ble_eq_true rfl⟩ rfl (by decide) (gsz hsz (by decide)) lay_153 rfl rfl (Nat.le_of_ble_eq_true rfl) ⟨Nat.le_of_ble_eq_true rfl, Nat.le_of_ble_eq_true rfl⟩ rfl rfl dX11_owed_52 rfl (fun M19 P20 => ?_)
            obtain ⟨IM19, CM19, FM19⟩ := P20
            refine g_iconst (n := 56) X dX11_owed_55 rfl ?_
            refine g_istore (n := 58) (L' := [(5, gJ 0), (0, gA n0 0), (1, gJ a), (2, gJ b), (3, gJ c), (4, gJ d)]) X dX11_owed_56 (by decide) rfl rfl ?_
            refine g_iload_n (n := 59) X 3 dX11_owed_58 rfl rfl rfl ?_
            refine g_istore (n := 61) (L' := [(6, gJ b), (5, gJ 0), (0, gA n0 0), (1, gJ a), (2, gJ b), (3, gJ c), (4, gJ d)]) X dX11_owed_59 (by decide) rfl rfl ?_
            have j24 : ∀ (N254 : Nat) (v21 v22 : Int) , (-2147483648 ≤ v21 ∧ v21 ≤ 2147483647) → (0 ≤ v22 ∧ v22 ≤ 300) → (300 - v22).toNat < N254 → G p l e R_X11_owed s m args below meth cd n0 D cA 9 Q 0 0 M19 sz 61 [(0, gA n0 0), (1, gJ a), (3, gJ c), (5, gJ v21), (6, gJ v22)] [] := by
              intro N254; induction N254 with
              | zero => intro v21 v22 rv21 rv22 hm256; exfalso; omega
              | succ N254 ih255 =>
                intro v21 v22 rv21 rv22 hm256
                refine g_iload (n := 63) X 4 dX11_owed_61 rfl rfl ?_
                refine g_iload_n (n := 64) X 2 dX11_owed_63 rfl rfl rfl ?_
                refine g_icmp_gt (n := 67) (tgt := 144) X dX11_owed_64 (by decide) (by omega) (by omega) rfl (fun c257 => ?_) (fun c257 => ?_)
                · refine g_iload (n := 146) X 3 dX11_owed_144 rfl rfl ?_
                  refine g_aload_n (n := 147) X 0 dX11_owed_146 rfl rfl rfl ?_
                  refine gg_11_0 (n := 150) (z := 1) X (by decide) (gsz hsz (by decide)) lay_0 kw_2_231 dX11_owed_147 rfl (rf_0_0 IM19 (gsz hsz (by decide))) (by decide) ?_
                  refine gg_9_6 (n := 153) (z := 15) X (by decide) (gsz hsz (by decide)) lay_1 kw_2_119 dX11_owed_150 rfl (rf_1_6 IM19 (gsz hsz (by decide))) (by decide) ?_
                  obtain ⟨v258, hv258, rv258⟩ := gRd IM19 (by decide) (gsz hsz (by decide)) rc_15_9.1
                  refine gg_2_9 (n := 156) (z := v258) X (by decide) (gsz hsz (by decide)) lay_15 kw_1_114 dX11_owed_153 rfl hv258 ?_
                  refine g_imulA (n := 157) X dX11_owed_156 rfl (fun v259 rv259 xv259 => ?_)
                  clear xv259
                  exact hq _ _ _ _ dX11_owed_157 ⟨by omega, IM19, CM19, (gFr.c gFr.rf FM19 rfl)⟩
                · refine g_iconst (n := 68) X dX11_owed_67 rfl ?_
                  refine g_istore (n := 70) (L' := [(7, gJ 0), (0, gA n0 0), (1, gJ a), (3, gJ c), (5, gJ v21), (6, gJ v22)]) X dX11_owed_68 (by decide) rfl rfl ?_
                  have j263 : ∀ (N319 : Nat) (v260 v261 : Int) , (-2147483648 ≤ v260 ∧ v260 ≤ 2147483647) → (0 ≤ v261 ∧ v261 ≤ 16) → (16 - v261).toNat < N319 → G p l e R_X11_owed s m args below meth cd n0 D cA 9 Q 0 0 M19 sz 70 [(0, gA n0 0), (1, gJ a), (3, gJ c), (5, gJ v260), (6, gJ v22), (7, gJ v261)] [] := by
                    intro N319; induction N319 with
                    | zero => intro v260 v261 rv260 rv261 hm321; exfalso; omega
                    | succ N319 ih320 =>
                      intro v260 v261 rv260 rv261 hm321
                      refine g_iload (n := 72) X 5 dX11_owed_70 rfl rfl ?_
                      refine g_aload_n (n := 73) X 0 dX11_owed_72 rfl rfl rfl ?_
                      refine gg_11_0 (n := 76) (z := 1) X (by decide) (gsz hsz (by decide)) lay_0 kw_2_231 dX11_owed_73 rfl (rf_0_0 IM19 (gsz hsz (by decide))) (by decide) ?_
                      obtain ⟨v322, hv322, rv322⟩ := gRd IM19 (by decide) (gsz hsz (by decide)) rc_1_10.1
                      refine gg_9_10 (n := 79) (z := v322) X (by decide) (gsz hsz (by decide)) lay_1 kw_2_127 dX11_owed_76 rfl hv322 ?_
                      refine g_icmp_ge (n := 82) (tgt := 138) X dX11_owed_79 (by decide) (by omega) (by omega) rfl (fun c323 => ?_) (fun c323 => ?_)
                      · refine g_iinc (n := 141) (w := v22 + 1) (L' := [(6, gJ (v22 + 1)), (0, gA n0 0), (1, gJ a), (3, gJ c), (5, gJ v260), (7, gJ v261)]) X 4 dX11_owed_138 rfl rfl (by decide) rfl rfl ?_
                        refine g_goto (tgt := 61) X dX11_owed_141 (by decide) ?_
                        refine G.sub (L' := [(0, gA n0 0), (1, gJ a), (3, gJ c), (5, gJ v260), (6, gJ (v22 + 1))]) [1, 2, 3, 4, 0] rfl ?_
                        exact ih255 v260 (v22 + 1) (by omega) (by omega) (by omega)
                      · refine g_aload_n (n := 83) X 0 dX11_owed_82 rfl rfl rfl ?_
                        refine gg_11_0 (n := 86) (z := 1) X (by decide) (gsz hsz (by decide)) lay_0 kw_2_231 dX11_owed_83 rfl (rf_0_0 IM19 (gsz hsz (by decide))) (by decide) ?_
                        refine gg_9_7 (n := 89) (z := 23) X (by decide) (gsz hsz (by decide)) lay_1 kw_2_121 dX11_owed_86 rfl (rf_1_7 IM19 (gsz hsz (by decide))) (by decide) ?_
                        refine g_iload (n := 91) X 4 dX11_owed_89 rfl rfl ?_
                        refine g_iload (n := 93) X 5 dX11_owed_91 rfl rfl ?_
                        refine g_callVi (n := 96) (As := [gJ v22, gJ v261]) (rest := []) (cs1 := 0) (ss1 := 0) X (s_X5_eatenBy v22 (by omega) v261 (by omega) hsz IM19 CM19 ) okX5_eatenBy kw_5_37 ⟨kw_5_38, kw_5_39⟩ ⟨rfl, rfl⟩ ⟨Nat.le_of_ble_eq_true rfl, Nat.le_of_ble_eq_true rfl⟩ rfl (by decide) (gsz hsz (by decide)) lay_23 rfl rfl (Nat.le_of_ble_eq_true rfl) ⟨Nat.le_of_ble_eq_true rfl, Nat.le_of_ble_eq_true rfl⟩ rfl rfl dX11_owed_93 rfl (fun v324 M325 P326 => ?_)
                        obtain ⟨rfl, rv324⟩ := P326
                        refine g_istore (n := 98) (L' := [(8, gJ v324), (0, gA n0 0), (1, gJ a), (3, gJ c), (5, gJ v260), (6, gJ v22), (7, gJ v261)]) X dX11_owed_96 (by decide) rfl rfl ?_
                        refine g_iload (n := 100) X 0 dX11_owed_98 rfl rfl ?_
                        refine g_if_le (n := 103) (tgt := 132) X dX11_owed_100 (by decide) (by omega) rfl (fun c327 => ?_) (fun c327 => ?_)
                        · refine g_iinc (n := 135) (w := v261 + 1) (L' := [(7, gJ (v261 + 1)), (8, gJ v324), (0, gA n0 0), (1, gJ a), (3, gJ c), (5, gJ v260), (6, gJ v22)]) X 6 dX11_owed_132 rfl rfl (by decide) rfl rfl ?_
                          refine g_goto (tgt := 70) X dX11_owed_135 (by decide) ?_
                          refine G.sub (L' := [(0, gA n0 0), (1, gJ a), (3, gJ c), (5, gJ v260), (6, gJ v22), (7, gJ (v261 + 1))]) [2, 3, 4, 5, 6, 0] rfl ?_
                          exact ih320 v260 (v261 + 1) (by omega) (by omega) (by omega)
                        · refine g_aload_n (n := 104) X 1 dX11_owed_103 rfl rfl rfl ?_
                          refine gg_11_1 (n := 107) (z := 153) X (by decide) (gsz hsz (by decide)) lay_0 kw_2_232 dX11_owed_104 rfl (rf_0_1 IM19 (gsz hsz (by decide))) (by decide) ?_
                          refine g_aload_n (n := 108) X 1 dX11_owed_107 rfl rfl rfl ?_
                          refine gg_11_0 (n := 111) (z := 1) X (by decide) (gsz hsz (by decide)) lay_0 kw_2_231 dX11_owed_108 rfl (rf_0_0 IM19 (gsz hsz (by decide))) (by decide) ?_
                          refine g_iload (n := 113) X 6 dX11_owed_111 rfl rfl ?_
                          refine g_iload (n := 115) X 5 dX11_owed_113 rfl rfl ?_
                          refine g_ldc2 (n := 118) (z := (-1)) X dX11_owed_115 kw_3_159 (by decide +kernel) rfl ?_
                          refine g_callVi (n := 121) (As := [gA n0 1, gJ v261, gJ v22, gV (-1)]) (rest := []) (cs1 := 0) (ss1 := 0) X (s_X1_whose v261 (by omega) v22 (by omega) (-1) (by omega) hsz IM19 CM19 ) okX1_whose kw_3_160 ⟨kw_3_161, kw_3_162⟩ ⟨rfl, rfl⟩ ⟨Nat.le_of_ble_eq_true rfl, Nat.le_of_ble_eq_true rfl⟩ rfl (by decide) (gsz hsz (by decide)) lay_153 rfl rfl (Nat.le_of_ble_eq_true rfl) ⟨Nat.le_of_ble_eq_true rfl, Nat.le_of_ble_eq_true rfl⟩ rfl rfl dX11_owed_118 rfl (fun v328 M329 P330 => ?_)
                          obtain ⟨rfl, rv328⟩ := P330
                          refine g_iload_n (n := 122) X 2 dX11_owed_121 rfl rfl rfl ?_
                          refine g_icmp_ne (n := 125) (tgt := 132) X dX11_owed_122 (by decide) (by omega) (by omega) rfl (fun c331 => ?_) (fun c331 => ?_)
                          · refine g_iinc (n := 135) (w := v261 + 1) (L' := [(7, gJ (v261 + 1)), (8, gJ v324), (0, gA n0 0), (1, gJ a), (3, gJ c), (5, gJ v260), (6, gJ v22)]) X 6 dX11_owed_132 rfl rfl (by decide) rfl rfl ?_
                            refine g_goto (tgt := 70) X dX11_owed_135 (by decide) ?_
                            refine G.sub (L' := [(0, gA n0 0), (1, gJ a), (3, gJ c), (5, gJ v260), (6, gJ v22), (7, gJ (v261 + 1))]) [2, 3, 4, 5, 6, 0] rfl ?_
                            exact ih320 v260 (v261 + 1) (by omega) (by omega) (by omega)
                          · refine g_iload (n := 127) X 4 dX11_owed_125 rfl rfl ?_
                            refine g_iload (n := 129) X 0 dX11_owed_127 rfl rfl ?_
                            refine g_iaddA (n := 130) X dX11_owed_129 rfl (fun v332 rv332 xv332 => ?_)
                            clear xv332
                            refine g_istore (n := 132) (L' := [(5, gJ v332), (8, gJ v324), (0, gA n0 0), (1, gJ a), (3, gJ c), (6, gJ v22), (7, gJ v261)]) X dX11_owed_130 (by decide) rfl rfl ?_
                            refine g_iinc (n := 135) (w := v261 + 1) (L' := [(7, gJ (v261 + 1)), (5, gJ v332), (8, gJ v324), (0, gA n0 0), (1, gJ a), (3, gJ c), (6, gJ v22)]) X 6 dX11_owed_132 rfl rfl (by decide) rfl rfl ?_
                            refine g_goto (tgt := 70) X dX11_owed_135 (by decide) ?_
                            refine G.sub (L' := [(0, gA n0 0), (1, gJ a), (3, gJ c), (5, gJ v332), (6, gJ v22), (7, gJ (v261 + 1))]) [3, 4, 5, 1, 6, 0] rfl ?_
                            exact ih320 v332 (v261 + 1) (by omega) (by omega) (by omega)
                  refine G.sub (L' := [(0, gA n0 0), (1, gJ a), (3, gJ c), (5, gJ v21), (6, gJ v22), (7, gJ 0)]) [1, 2, 3, 4, 5, 0] rfl ?_
                  exact j263 _ v21 0 (by omega) (by omega) (Nat.lt_succ_self _)
            refine G.sub (L' := [(0, gA n0 0), (1, gJ a), (3, gJ c), (5, gJ 0), (6, gJ b)]) [2, 3, 5, 1, 0] rfl ?_
            exact j24 _ 0 b (by omega) (by omega) (Nat.lt_succ_self _)
          · refine g_bipush (n := 41) X dX11_owed_39 (by decide +kernel) rfl ?_
            exact hq _ _ _ _ dX11_owed_41 ⟨by omega, I, C, gFr.rf⟩
        · refine g_iconst (n := 33) X dX11_owed_32 rfl ?_
          exact hq _ _ _ _ dX11_owed_33 ⟨by omega, I, C, gFr.rf⟩
