theorem gC.copyA {sz : Nat} {M M1 M2 : gM} {o oa : Int} (C : gC sz M) (ho : gAz sz o) (hoa : gAz sz oa) (hne : ¬ oa = o) (e1 : M1 = gcpy M (o + 3) (oa + 3) 8) (e2 : M2 = gcpy M1 (o + 4) (oa + 4) 8) : gC sz M2 := by
  have hm : ∀ a b : Int, ¬ a = o + 3 → ¬ a = o + 4 → M2 a b = M a b := fun a b h3 h4 => by rw [e2, gcpy_ne h4, e1, gcpy_ne h3]
  refine ⟨fun a ha => ?_, fun a ha => ?_, fun a i ha => ?_⟩
  · have h3 : ¬ a = o + 3 ∧ ¬ a = o + 4 := by unfold gRz at ha; unfold gAz at ho; omega
    rw [hm _ _ h3.1 h3.2, hm _ _ h3.1 h3.2]; exact C.1 a ha
  · have h3 : ¬ a = o + 3 ∧ ¬ a = o + 4 := by unfold gPz at ha; unfold gAz at ho; omega
    rw [hm _ _ h3.1 h3.2, hm _ _ h3.1 h3.2, hm _ _ h3.1 h3.2]; exact C.2.1 a ha
  · by_cases q : a = o
    · subst q
      by_cases g : 0 ≤ i ∧ i < 8
      · have w3 : M2 (a + 3) i = M (oa + 3) i := by rw [e2, gcpy_ne (by omega), e1, gcpy_in g]
        have w4 : M2 (a + 4) i = M (oa + 4) i := by rw [e2, gcpy_in g, e1, gcpy_ne (by unfold gAz at ho hoa; omega)]
        rw [w3, w4]; exact C.2.2 oa i hoa
      · have w3 : M2 (a + 3) i = M (a + 3) i := by rw [e2, gcpy_ne (by omega), e1]; simp only [gcpy]; rw [if_neg (fun z => g z.2)]
        have w4 : M2 (a + 4) i = M (a + 4) i := by
          rw [e2]; simp only [gcpy]; rw [if_neg (fun z => g z.2), e1]
          show gcpy M (a + 3) (oa + 3) 8 (a + 4) i = _
          rw [gcpy_ne (by omega)]
        rw [w3, w4]; exact C.2.2 a i ha
    · have h3 : ¬ a + 3 = o + 3 ∧ ¬ a + 3 = o + 4 := by unfold gAz at ha ho; omega
      have h4 : ¬ a + 4 = o + 3 ∧ ¬ a + 4 = o + 4 := by unfold gAz at ha ho; omega
      rw [hm _ _ h3.1 h3.2, hm _ _ h4.1 h4.2]; exact C.2.2 a i ha
abbrev R_s_X0_begin_A : Room := { frames := 4, cells := 0, slots := 0, locals := 120 }
set_option maxRecDepth 100000 in
set_option maxHeartbeats 4000000 in
theorem s_X0_begin_A {l : Launch} {n0 : Nat} {D : va_G} {cA : Nat → ClassId} {M : gM} (o : Int) (r_o : 87 ≤ o ∧ o ≤ 147 ∧ (o - 87) % 6 = 0) (oa : Int) (r_oa : 292 ≤ oa ∧ oa ≤ 352 ∧ (oa - 292) % 6 = 0) (b : Int) (r_b : 0 ≤ b ∧ b ≤ 150) (c : Int) (r_c : 0 ≤ c ∧ c ≤ 300) {sz : Nat} (hsz : 206 ≤ sz) (I : gI sz M) (C : gC sz M) (hsz8 : sz = 358)  : Met l yX0_begin (gWsOf yX0_begin cX0_begin 5 (Option.none : Option Jvm.ClassFile.FieldType)) R_s_X0_begin_A (gPc n0 D cA [gA n0 o, gA n0 (oa + 1), gJ b, gJ c] M sz) (gQv n0 D cA sz (fun M1 => gI sz M1 ∧ gC sz M1 ∧ gFr 256 M M1)) 0 0 (fun q => n0 ≤ q) := by
  refine gMetV [gA n0 o, gA n0 (oa + 1), gJ b, gJ c] (by decide) (Nat.le_of_ble_eq_true rfl) ⟨rfl, rfl⟩ ?_
  intro p e s m args below meth cd Q X hq
  have X : gCx p s m args meth cd n0 D cA "ParishUnion$Act" cX0_begin 5 := X
  show G p l e R_s_X0_begin_A s m args below meth cd n0 D cA 5 Q 0 0 M sz 0 [(0, gA n0 o), (1, gA n0 (oa + 1)), (2, gJ b), (3, gJ c)] []
  refine g_aload_n (n := 1) X 1 dX0_begin_0 rfl rfl rfl ?_
  refine g_iconst (n := 2) X dX0_begin_1 rfl ?_
  refine g_aload_n (n := 3) X 0 dX0_begin_2 rfl rfl rfl ?_
  refine gg_0_0 (n := 6) (z := o + 1) X (Ao0 r_o) (Aosz hsz r_o) (lay2_A r_o) kw_2_71 dX0_begin_3 rfl (rfA_0 I hsz r_o) (by omega) ?_
  refine g_iconst (n := 7) X dX0_begin_6 rfl ?_
  refine g_iload_n (n := 8) X 2 dX0_begin_7 rfl rfl rfl ?_
  refine g_acopyB (n := 11) X kw_3_207 kw_3_209 kw_3_208 kw_1_16 (AI1o0 r_oa) (by omega) (lay2_AI1 r_oa) (A1o0 r_o) (A1osz hsz r_o) (lay2_A1 r_o) (by omega) (by omega) (by omega) (by omega) (gI.bytes I (AI1o0 r_oa) (by omega) (fun k => (rAAI_1 r_oa k).1)) (Nat.le_of_ble_eq_true rfl) (Nat.le_of_ble_eq_true rfl) dX0_begin_8 rfl ?_
  refine G.nm (fun M1 e2 => ?_)
  have IM1 : gI sz M1 := gI.cpy I (AI1o0 r_oa) (by omega) (fun k => ((rAA_1 r_o k).1.trans (rAAI_1 r_oa k).1.symm)) e2
  have CM1 : gC sz M1 := gC.cpy C (fun k => (rAA_1 r_o k).2.1) e2
  refine g_aload_n (n := 12) X 0 dX0_begin_11 rfl rfl rfl ?_
  refine g_iload_n (n := 13) X 2 dX0_begin_12 rfl rfl rfl ?_
  refine gp_0_5 (n := 16) X (Ao0 r_o) (Aosz hsz r_o) (lay2_A r_o) kw_2_82 dX0_begin_13 rfl ?_
  refine G.nm (fun M3 e4 => ?_)
  have IM3 : gI sz M3 := gI.set IM1 (rA_5 r_o).1 (by omega) e4
  have CM3 : gC sz M3 := gC.set CM1 (rA_5 r_o).2.1 e4
  refine g_aload_n (n := 17) X 0 dX0_begin_16 rfl rfl rfl ?_
  refine g_iload_n (n := 18) X 3 dX0_begin_17 rfl rfl rfl ?_
  refine gp_0_6 (n := 21) X (Ao0 r_o) (Aosz hsz r_o) (lay2_A r_o) kw_2_83 dX0_begin_18 rfl ?_
  refine G.nm (fun M5 e6 => ?_)
  have IM5 : gI sz M5 := gI.set IM3 (rA_6 r_o).1 (by omega) e6
  have CM5 : gC sz M5 := gC.set CM3 (rA_6 r_o).2.1 e6
  refine g_aload_n (n := 22) X 0 dX0_begin_21 rfl rfl rfl ?_
  refine g_iconst (n := 23) X dX0_begin_22 rfl ?_
  refine gp_0_7 (n := 26) X (Ao0 r_o) (Aosz hsz r_o) (lay2_A r_o) kw_2_85 dX0_begin_23 rfl ?_
  refine G.nm (fun M7 e8 => ?_)
  have IM7 : gI sz M7 := gI.set IM5 (rA_7 r_o).1 (by omega) e8
  have CM7 : gC sz M7 := gC.set CM5 (rA_7 r_o).2.1 e8
  refine g_iconst (n := 27) X dX0_begin_26 rfl ?_
  refine g_istore (n := 29) (L' := [(4, gJ 0), (0, gA n0 o), (1, gA n0 (oa + 1)), (2, gJ b), (3, gJ c)]) X dX0_begin_27 (by decide) rfl rfl ?_
  have j11 : ∀ (N27 : Nat) (v9 : Int) (M10 : gM) , (0 ≤ v9 ∧ v9 ≤ 10) → gI sz M10 → gC sz M10 → gFr 256 M7 M10 → (10 - v9).toNat < N27 → G p l e R_s_X0_begin_A s m args below meth cd n0 D cA 5 Q 0 0 M10 sz 29 [(0, gA n0 o), (4, gJ v9)] [] := by
    intro N27; induction N27 with
    | zero => intro v9 M10 rv9 IM10 CM10 FM10 hm29; exfalso; omega
    | succ N27 ih28 =>
      intro v9 M10 rv9 IM10 CM10 FM10 hm29
      refine g_iload (n := 31) X 1 dX0_begin_29 rfl rfl ?_
      refine g_bipush (n := 33) X dX0_begin_31 (by decide +kernel) rfl ?_
      refine g_icmp_ge (n := 36) (tgt := 50) X dX0_begin_33 (by decide) (by omega) (by omega) rfl (fun c30 => ?_) (fun c30 => ?_)
      · exact hq _ _ _ dX0_begin_50 ⟨IM10, CM10, (gFr.c (gFr.s (gFr.s (gFr.s (gFr.y gFr.rf e2 (fun k => (rAA_1 r_o k).2.2) rfl) e4 (rA_5 r_o).2.2 rfl) e6 (rA_6 r_o).2.2 rfl) e8 (rA_7 r_o).2.2 rfl) FM10 rfl)⟩
      · refine g_aload_n (n := 37) X 0 dX0_begin_36 rfl rfl rfl ?_
        refine gg_0_1 (n := 40) (z := o + 2) X (Ao0 r_o) (Aosz hsz r_o) (lay2_A r_o) kw_2_73 dX0_begin_37 rfl (rfA_1 IM10 hsz r_o) (by omega) ?_
        refine g_iload (n := 42) X 1 dX0_begin_40 rfl rfl ?_
        refine g_iconst (n := 43) X dX0_begin_42 rfl ?_
        refine g_iast (n := 44) X (A2o0 r_o) (A2osz hsz r_o) (lay2_A2 r_o) (by omega) (by omega) (by decide) dX0_begin_43 rfl ?_
        refine G.nm (fun M31 e32 => ?_)
        have IM31 : gI sz M31 := gI.set IM10 (rAA_2 r_o v9).1 (by omega) e32
        have CM31 : gC sz M31 := gC.set CM10 (rAA_2 r_o v9).2.1 e32
        refine g_iinc (n := 47) (w := v9 + 1) (L' := [(4, gJ (v9 + 1)), (0, gA n0 o)]) X 1 dX0_begin_44 rfl rfl (by decide) rfl rfl ?_
        refine g_goto (tgt := 29) X dX0_begin_47 (by decide) ?_
        refine G.sub (L' := [(0, gA n0 o), (4, gJ (v9 + 1))]) [1, 0] rfl ?_
        exact ih28 (v9 + 1) M31 (by omega) IM31 CM31 (gFr.s (gFr.c gFr.rf FM10 rfl) e32 (rAA_2 r_o v9).2.2 rfl) (by omega)
  refine G.sub (L' := [(0, gA n0 o), (4, gJ 0)]) [1, 0] rfl ?_
  exact j11 _ 0 M7 (by omega) IM7 CM7 gFr.rf (Nat.lt_succ_self _)
theorem dX0_copyFrom_0 : decode cX0_copyFrom 0 = .ok (.aload_n 0, 1) := dc_42 (by decide +kernel)
theorem dX0_copyFrom_1 : decode cX0_copyFrom 1 = .ok (.aload_n 1, 1) := dc_43 (by decide +kernel)
theorem dX0_copyFrom_2 : decode cX0_copyFrom 2 = .ok (.getfield 9, 3) := dc_180 0 9 (by decide +kernel)
theorem dX0_copyFrom_5 : decode cX0_copyFrom 5 = .ok (.aload_n 1, 1) := dc_43 (by decide +kernel)
theorem dX0_copyFrom_6 : decode cX0_copyFrom 6 = .ok (.getfield 34, 3) := dc_180 0 34 (by decide +kernel)
theorem dX0_copyFrom_9 : decode cX0_copyFrom 9 = .ok (.aload_n 1, 1) := dc_43 (by decide +kernel)
theorem dX0_copyFrom_10 : decode cX0_copyFrom 10 = .ok (.getfield 38, 3) := dc_180 0 38 (by decide +kernel)
theorem dX0_copyFrom_13 : decode cX0_copyFrom 13 = .ok (.invokevirtual 44, 3) := dc_182 0 44 (by decide +kernel)
theorem kw_5_231 : (Jvm.Cond.methodLink "ParishUnion$Act" (44 : Nat) ({ cls := "ParishUnion$Act", name := "begin", desc := "([BII)V" } : Jvm.MethodName)) ∈ gT := gT_of (tb_5 _ (List.mem_of_getElem? (i := 231) rfl)) rfl
theorem dX0_copyFrom_16 : decode cX0_copyFrom 16 = .ok (.aload_n 1, 1) := dc_43 (by decide +kernel)
theorem dX0_copyFrom_17 : decode cX0_copyFrom 17 = .ok (.getfield 15, 3) := dc_180 0 15 (by decide +kernel)
theorem dX0_copyFrom_20 : decode cX0_copyFrom 20 = .ok (.iconst 0, 1) := dc_3 (by decide +kernel)
theorem dX0_copyFrom_21 : decode cX0_copyFrom 21 = .ok (.aload_n 0, 1) := dc_42 (by decide +kernel)
theorem dX0_copyFrom_22 : decode cX0_copyFrom 22 = .ok (.getfield 15, 3) := dc_180 0 15 (by decide +kernel)
theorem dX0_copyFrom_25 : decode cX0_copyFrom 25 = .ok (.iconst 0, 1) := dc_3 (by decide +kernel)
theorem dX0_copyFrom_26 : decode cX0_copyFrom 26 = .ok (.bipush 10, 2) := dc_16 10 10 (by decide +kernel)
theorem dX0_copyFrom_28 : decode cX0_copyFrom 28 = .ok (.invokestatic 28, 3) := dc_184 0 28 (by decide +kernel)
theorem dX0_copyFrom_31 : decode cX0_copyFrom 31 = .ok (.aload_n 1, 1) := dc_43 (by decide +kernel)
theorem dX0_copyFrom_32 : decode cX0_copyFrom 32 = .ok (.getfield 19, 3) := dc_180 0 19 (by decide +kernel)
theorem dX0_copyFrom_35 : decode cX0_copyFrom 35 = .ok (.iconst 0, 1) := dc_3 (by decide +kernel)
theorem dX0_copyFrom_36 : decode cX0_copyFrom 36 = .ok (.aload_n 0, 1) := dc_42 (by decide +kernel)
theorem dX0_copyFrom_37 : decode cX0_copyFrom 37 = .ok (.getfield 19, 3) := dc_180 0 19 (by decide +kernel)
theorem dX0_copyFrom_40 : decode cX0_copyFrom 40 = .ok (.iconst 0, 1) := dc_3 (by decide +kernel)
theorem dX0_copyFrom_41 : decode cX0_copyFrom 41 = .ok (.bipush 8, 2) := dc_16 8 8 (by decide +kernel)
theorem dX0_copyFrom_43 : decode cX0_copyFrom 43 = .ok (.invokestatic 28, 3) := dc_184 0 28 (by decide +kernel)
theorem dX0_copyFrom_46 : decode cX0_copyFrom 46 = .ok (.aload_n 1, 1) := dc_43 (by decide +kernel)
theorem dX0_copyFrom_47 : decode cX0_copyFrom 47 = .ok (.getfield 22, 3) := dc_180 0 22 (by decide +kernel)
theorem dX0_copyFrom_50 : decode cX0_copyFrom 50 = .ok (.iconst 0, 1) := dc_3 (by decide +kernel)
theorem dX0_copyFrom_51 : decode cX0_copyFrom 51 = .ok (.aload_n 0, 1) := dc_42 (by decide +kernel)
theorem dX0_copyFrom_52 : decode cX0_copyFrom 52 = .ok (.getfield 22, 3) := dc_180 0 22 (by decide +kernel)
theorem dX0_copyFrom_55 : decode cX0_copyFrom 55 = .ok (.iconst 0, 1) := dc_3 (by decide +kernel)
theorem dX0_copyFrom_56 : decode cX0_copyFrom 56 = .ok (.bipush 8, 2) := dc_16 8 8 (by decide +kernel)
theorem dX0_copyFrom_58 : decode cX0_copyFrom 58 = .ok (.invokestatic 28, 3) := dc_184 0 28 (by decide +kernel)
theorem dX0_copyFrom_61 : decode cX0_copyFrom 61 = .ok (.aload_n 1, 1) := dc_43 (by decide +kernel)
theorem dX0_copyFrom_62 : decode cX0_copyFrom 62 = .ok (.getfield 25, 3) := dc_180 0 25 (by decide +kernel)
theorem dX0_copyFrom_65 : decode cX0_copyFrom 65 = .ok (.iconst 0, 1) := dc_3 (by decide +kernel)
theorem dX0_copyFrom_66 : decode cX0_copyFrom 66 = .ok (.aload_n 0, 1) := dc_42 (by decide +kernel)
theorem dX0_copyFrom_67 : decode cX0_copyFrom 67 = .ok (.getfield 25, 3) := dc_180 0 25 (by decide +kernel)
theorem dX0_copyFrom_70 : decode cX0_copyFrom 70 = .ok (.iconst 0, 1) := dc_3 (by decide +kernel)
theorem dX0_copyFrom_71 : decode cX0_copyFrom 71 = .ok (.bipush 8, 2) := dc_16 8 8 (by decide +kernel)
theorem dX0_copyFrom_73 : decode cX0_copyFrom 73 = .ok (.invokestatic 28, 3) := dc_184 0 28 (by decide +kernel)
theorem dX0_copyFrom_76 : decode cX0_copyFrom 76 = .ok (.aload_n 0, 1) := dc_42 (by decide +kernel)
theorem dX0_copyFrom_77 : decode cX0_copyFrom 77 = .ok (.aload_n 1, 1) := dc_43 (by decide +kernel)
theorem dX0_copyFrom_78 : decode cX0_copyFrom 78 = .ok (.getfield 41, 3) := dc_180 0 41 (by decide +kernel)
theorem dX0_copyFrom_81 : decode cX0_copyFrom 81 = .ok (.putfield 41, 3) := dc_181 0 41 (by decide +kernel)
theorem dX0_copyFrom_84 : decode cX0_copyFrom 84 = .ok (.return_, 1) := dc_177 (by decide +kernel)
abbrev R_s_X0_copyFrom_A : Room := { frames := 5, cells := 0, slots := 0, locals := 144 }
set_option maxRecDepth 100000 in
set_option maxHeartbeats 4000000 in
theorem s_X0_copyFrom_A {l : Launch} {n0 : Nat} {D : va_G} {cA : Nat → ClassId} {M : gM} (o : Int) (r_o : 87 ≤ o ∧ o ≤ 147 ∧ (o - 87) % 6 = 0) (oa : Int) (r_oa : 292 ≤ oa ∧ oa ≤ 352 ∧ (oa - 292) % 6 = 0) {sz : Nat} (hsz : 206 ≤ sz) (I : gI sz M) (C : gC sz M) (hsz8 : sz = 358) (hne : ¬ oa = o)  : Met l yX0_copyFrom (gWsOf yX0_copyFrom cX0_copyFrom 2 (Option.none : Option Jvm.ClassFile.FieldType)) R_s_X0_copyFrom_A (gPc n0 D cA [gA n0 o, gA n0 oa] M sz) (gQv n0 D cA sz (fun M1 => gI sz M1 ∧ gC sz M1 ∧ gFr 256 M M1)) 0 0 (fun q => n0 ≤ q) := by
  refine gMetV [gA n0 o, gA n0 oa] (by decide) (Nat.le_of_ble_eq_true rfl) ⟨rfl, rfl⟩ ?_
  intro p e s m args below meth cd Q X hq
  have X : gCx p s m args meth cd n0 D cA "ParishUnion$Act" cX0_copyFrom 2 := X
  show G p l e R_s_X0_copyFrom_A s m args below meth cd n0 D cA 2 Q 0 0 M sz 0 [(0, gA n0 o), (1, gA n0 oa)] []
  refine g_aload_n (n := 1) X 0 dX0_copyFrom_0 rfl rfl rfl ?_
  refine g_aload_n (n := 2) X 1 dX0_copyFrom_1 rfl rfl rfl ?_
  refine gg_0_0 (n := 5) (z := oa + 1) X (AIo0 r_oa) (by omega) (lay2_AI r_oa) kw_2_71 dX0_copyFrom_2 rfl (rfAI_0 I hsz8 r_oa) (AI1o0 r_oa) ?_
  refine g_aload_n (n := 6) X 1 dX0_copyFrom_5 rfl rfl rfl ?_
  obtain ⟨v1, hv1, rv1⟩ := gRd I (AIo0 r_oa) (by omega) (rAI_5 r_oa).1
  refine gg_0_5 (n := 9) (z := v1) X (AIo0 r_oa) (by omega) (lay2_AI r_oa) kw_2_82 dX0_copyFrom_6 rfl hv1 ?_
  refine g_aload_n (n := 10) X 1 dX0_copyFrom_9 rfl rfl rfl ?_
  obtain ⟨v2, hv2, rv2⟩ := gRd I (AIo0 r_oa) (by omega) (rAI_6 r_oa).1
  refine gg_0_6 (n := 13) (z := v2) X (AIo0 r_oa) (by omega) (lay2_AI r_oa) kw_2_83 dX0_copyFrom_10 rfl hv2 ?_
  refine g_callVv (n := 16) (As := [gA n0 (oa + 1), gJ v1, gJ v2]) (rest := []) (cs1 := 0) (ss1 := 0) X (s_X0_begin_A o r_o oa r_oa v1 (by omega) v2 (by omega) hsz I C hsz8) okX0_begin kw_5_231 ⟨kw_3_204, kw_3_205⟩ ⟨rfl, rfl⟩ ⟨Nat.le_of_ble_eq_true rfl, Nat.le_of_ble_eq_true rfl⟩ rfl (Ao0 r_o) (Aosz hsz r_o) (lay2_A r_o) rfl rfl (Nat.le_of_ble_eq_true rfl) ⟨Nat.le_of_ble_eq_true rfl, Nat.le_of_ble_eq_true rfl⟩ rfl rfl dX0_copyFrom_13 rfl (fun M4 P5 => ?_)
  obtain ⟨IM4, CM4, FM4⟩ := P5
  refine g_aload_n (n := 17) X 1 dX0_copyFrom_16 rfl rfl rfl ?_
  refine gg_0_1 (n := 20) (z := oa + 2) X (AIo0 r_oa) (by omega) (lay2_AI r_oa) kw_2_73 dX0_copyFrom_17 rfl (rfAI_1 IM4 hsz8 r_oa) (AI2o0 r_oa) ?_
  refine g_iconst (n := 21) X dX0_copyFrom_20 rfl ?_
  refine g_aload_n (n := 22) X 0 dX0_copyFrom_21 rfl rfl rfl ?_
  refine gg_0_1 (n := 25) (z := o + 2) X (Ao0 r_o) (Aosz hsz r_o) (lay2_A r_o) kw_2_73 dX0_copyFrom_22 rfl (rfA_1 IM4 hsz r_o) (by omega) ?_
  refine g_iconst (n := 26) X dX0_copyFrom_25 rfl ?_
  refine g_bipush (n := 28) X dX0_copyFrom_26 (by decide +kernel) rfl ?_
  refine g_acopyI (n := 31) X kw_3_207 kw_3_209 kw_3_208 kw_1_16 (AI2o0 r_oa) (by omega) (lay2_AI2 r_oa) (A2o0 r_o) (A2osz hsz r_o) (lay2_A2 r_o) (by omega) (by omega) (by omega) (by omega) (Nat.le_of_ble_eq_true rfl) (Nat.le_of_ble_eq_true rfl) dX0_copyFrom_28 rfl ?_
  refine G.nm (fun M6 e7 => ?_)
  have IM6 : gI sz M6 := gI.cpy IM4 (AI2o0 r_oa) (by omega) (fun k => ((rAA_2 r_o k).1.trans (rAAI_2 r_oa k).1.symm)) e7
  have CM6 : gC sz M6 := gC.cpy CM4 (fun k => (rAA_2 r_o k).2.1) e7
  refine g_aload_n (n := 32) X 1 dX0_copyFrom_31 rfl rfl rfl ?_
  refine gg_0_2 (n := 35) (z := oa + 3) X (AIo0 r_oa) (by omega) (lay2_AI r_oa) kw_2_75 dX0_copyFrom_32 rfl (rfAI_2 IM6 hsz8 r_oa) (AI3o0 r_oa) ?_
  refine g_iconst (n := 36) X dX0_copyFrom_35 rfl ?_
  refine g_aload_n (n := 37) X 0 dX0_copyFrom_36 rfl rfl rfl ?_
  refine gg_0_2 (n := 40) (z := o + 3) X (Ao0 r_o) (Aosz hsz r_o) (lay2_A r_o) kw_2_75 dX0_copyFrom_37 rfl (rfA_2 IM6 hsz r_o) (by omega) ?_
  refine g_iconst (n := 41) X dX0_copyFrom_40 rfl ?_
  refine g_bipush (n := 43) X dX0_copyFrom_41 (by decide +kernel) rfl ?_
  refine g_acopyI (n := 46) X kw_3_207 kw_3_209 kw_3_208 kw_1_16 (AI3o0 r_oa) (by omega) (lay2_AI3 r_oa) (A3o0 r_o) (A3osz hsz r_o) (lay2_A3 r_o) (by omega) (by omega) (by omega) (by omega) (Nat.le_of_ble_eq_true rfl) (Nat.le_of_ble_eq_true rfl) dX0_copyFrom_43 rfl ?_
  refine G.nm (fun M8 e9 => ?_)
  have IM8 : gI sz M8 := gI.cpy IM6 (AI3o0 r_oa) (by omega) (fun k => ((rAA_3 r_o k).1.trans (rAAI_3 r_oa k).1.symm)) e9
  refine g_aload_n (n := 47) X 1 dX0_copyFrom_46 rfl rfl rfl ?_
  refine gg_0_3 (n := 50) (z := oa + 4) X (AIo0 r_oa) (by omega) (lay2_AI r_oa) kw_2_77 dX0_copyFrom_47 rfl (rfAI_3 IM8 hsz8 r_oa) (AI4o0 r_oa) ?_
  refine g_iconst (n := 51) X dX0_copyFrom_50 rfl ?_
  refine g_aload_n (n := 52) X 0 dX0_copyFrom_51 rfl rfl rfl ?_
  refine gg_0_3 (n := 55) (z := o + 4) X (Ao0 r_o) (Aosz hsz r_o) (lay2_A r_o) kw_2_77 dX0_copyFrom_52 rfl (rfA_3 IM8 hsz r_o) (by omega) ?_
  refine g_iconst (n := 56) X dX0_copyFrom_55 rfl ?_
  refine g_bipush (n := 58) X dX0_copyFrom_56 (by decide +kernel) rfl ?_
  refine g_acopyI (n := 61) X kw_3_207 kw_3_209 kw_3_208 kw_1_16 (AI4o0 r_oa) (by omega) (lay2_AI4 r_oa) (A4o0 r_o) (A4osz hsz r_o) (lay2_A4 r_o) (by omega) (by omega) (by omega) (by omega) (Nat.le_of_ble_eq_true rfl) (Nat.le_of_ble_eq_true rfl) dX0_copyFrom_58 rfl ?_
  refine G.nm (fun M10 e11 => ?_)
  have IM10 : gI sz M10 := gI.cpy IM8 (AI4o0 r_oa) (by omega) (fun k => ((rAA_4 r_o k).1.trans (rAAI_4 r_oa k).1.symm)) e11
  have CM10 : gC sz M10 := gC.copyA CM6 (Or.inl r_o) (Or.inr ⟨r_oa.1, r_oa.2.1, r_oa.2.2, hsz8⟩) (by omega) e9 e11
  refine g_aload_n (n := 62) X 1 dX0_copyFrom_61 rfl rfl rfl ?_
  refine gg_0_4 (n := 65) (z := oa + 5) X (AIo0 r_oa) (by omega) (lay2_AI r_oa) kw_2_79 dX0_copyFrom_62 rfl (rfAI_4 IM10 hsz8 r_oa) (AI5o0 r_oa) ?_
  refine g_iconst (n := 66) X dX0_copyFrom_65 rfl ?_
  refine g_aload_n (n := 67) X 0 dX0_copyFrom_66 rfl rfl rfl ?_
  refine gg_0_4 (n := 70) (z := o + 5) X (Ao0 r_o) (Aosz hsz r_o) (lay2_A r_o) kw_2_79 dX0_copyFrom_67 rfl (rfA_4 IM10 hsz r_o) (by omega) ?_
  refine g_iconst (n := 71) X dX0_copyFrom_70 rfl ?_
  refine g_bipush (n := 73) X dX0_copyFrom_71 (by decide +kernel) rfl ?_
  refine g_acopyI (n := 76) X kw_3_207 kw_3_209 kw_3_208 kw_1_16 (AI5o0 r_oa) (by omega) (lay2_AI5 r_oa) (A5o0 r_o) (A5osz hsz r_o) (lay2_A5 r_o) (by omega) (by omega) (by omega) (by omega) (Nat.le_of_ble_eq_true rfl) (Nat.le_of_ble_eq_true rfl) dX0_copyFrom_73 rfl ?_
  refine G.nm (fun M12 e13 => ?_)
  have IM12 : gI sz M12 := gI.cpy IM10 (AI5o0 r_oa) (by omega) (fun k => ((rAA_5 r_o k).1.trans (rAAI_5 r_oa k).1.symm)) e13
  have CM12 : gC sz M12 := gC.cpy CM10 (fun k => (rAA_5 r_o k).2.1) e13
  refine g_aload_n (n := 77) X 0 dX0_copyFrom_76 rfl rfl rfl ?_
  refine g_aload_n (n := 78) X 1 dX0_copyFrom_77 rfl rfl rfl ?_
  obtain ⟨v14, hv14, rv14⟩ := gRd IM12 (AIo0 r_oa) (by omega) (rAI_7 r_oa).1
  refine gg_0_7 (n := 81) (z := v14) X (AIo0 r_oa) (by omega) (lay2_AI r_oa) kw_2_85 dX0_copyFrom_78 rfl hv14 ?_
  refine gp_0_7 (n := 84) X (Ao0 r_o) (Aosz hsz r_o) (lay2_A r_o) kw_2_85 dX0_copyFrom_81 rfl ?_
  refine G.nm (fun M15 e16 => ?_)
  have IM15 : gI sz M15 := gI.set IM12 (rA_7 r_o).1 (by omega) e16
  have CM15 : gC sz M15 := gC.set CM12 (rA_7 r_o).2.1 e16
  exact hq _ _ _ dX0_copyFrom_84 ⟨IM15, CM15, (gFr.s (gFr.y (gFr.y (gFr.y (gFr.y (gFr.c gFr.rf FM4 rfl) e7 (fun k => (rAA_2 r_o k).2.2) rfl) e9 (fun k => (rAA_3 r_o k).2.2) rfl) e11 (fun k => (rAA_4 r_o k).2.2) rfl) e13 (fun k => (rAA_5 r_o k).2.2) rfl) e16 (rA_7 r_o).2.2 rfl)⟩
abbrev R_s_X0_begin_AI : Room := { frames := 4, cells := 0, slots := 0, locals := 120 }
set_option maxRecDepth 100000 in
set_option maxHeartbeats 4000000 in
theorem s_X0_begin_AI {l : Launch} {n0 : Nat} {D : va_G} {cA : Nat → ClassId} {M : gM} (o : Int) (r_o : 292 ≤ o ∧ o ≤ 352 ∧ (o - 292) % 6 = 0) (oa : Int) (r_oa : 87 ≤ oa ∧ oa ≤ 147 ∧ (oa - 87) % 6 = 0) (b : Int) (r_b : 0 ≤ b ∧ b ≤ 150) (c : Int) (r_c : 0 ≤ c ∧ c ≤ 300) {sz : Nat} (hsz : 206 ≤ sz) (I : gI sz M) (C : gC sz M) (hsz8 : sz = 358)  : Met l yX0_begin (gWsOf yX0_begin cX0_begin 5 (Option.none : Option Jvm.ClassFile.FieldType)) R_s_X0_begin_AI (gPc n0 D cA [gA n0 o, gA n0 (oa + 1), gJ b, gJ c] M sz) (gQv n0 D cA sz (fun M1 => gI sz M1 ∧ gC sz M1 ∧ gFr 77371252455336267181195264 M M1)) 0 0 (fun q => n0 ≤ q) := by
  refine gMetV [gA n0 o, gA n0 (oa + 1), gJ b, gJ c] (by decide) (Nat.le_of_ble_eq_true rfl) ⟨rfl, rfl⟩ ?_
  intro p e s m args below meth cd Q X hq
  have X : gCx p s m args meth cd n0 D cA "ParishUnion$Act" cX0_begin 5 := X
  show G p l e R_s_X0_begin_AI s m args below meth cd n0 D cA 5 Q 0 0 M sz 0 [(0, gA n0 o), (1, gA n0 (oa + 1)), (2, gJ b), (3, gJ c)] []
  refine g_aload_n (n := 1) X 1 dX0_begin_0 rfl rfl rfl ?_
  refine g_iconst (n := 2) X dX0_begin_1 rfl ?_
  refine g_aload_n (n := 3) X 0 dX0_begin_2 rfl rfl rfl ?_
  refine gg_0_0 (n := 6) (z := o + 1) X (AIo0 r_o) (by omega) (lay2_AI r_o) kw_2_71 dX0_begin_3 rfl (rfAI_0 I hsz8 r_o) (AI1o0 r_o) ?_
  refine g_iconst (n := 7) X dX0_begin_6 rfl ?_
  refine g_iload_n (n := 8) X 2 dX0_begin_7 rfl rfl rfl ?_
  refine g_acopyB (n := 11) X kw_3_207 kw_3_209 kw_3_208 kw_1_16 (A1o0 r_oa) (A1osz hsz r_oa) (lay2_A1 r_oa) (AI1o0 r_o) (by omega) (lay2_AI1 r_o) (by omega) (by omega) (by omega) (by omega) (gI.bytes I (A1o0 r_oa) (A1osz hsz r_oa) (fun k => (rAA_1 r_oa k).1)) (Nat.le_of_ble_eq_true rfl) (Nat.le_of_ble_eq_true rfl) dX0_begin_8 rfl ?_
  refine G.nm (fun M1 e2 => ?_)
  have IM1 : gI sz M1 := gI.cpy I (A1o0 r_oa) (A1osz hsz r_oa) (fun k => ((rAAI_1 r_o k).1.trans (rAA_1 r_oa k).1.symm)) e2
  have CM1 : gC sz M1 := gC.cpy C (fun k => (rAAI_1 r_o k).2.1) e2
  refine g_aload_n (n := 12) X 0 dX0_begin_11 rfl rfl rfl ?_
  refine g_iload_n (n := 13) X 2 dX0_begin_12 rfl rfl rfl ?_
  refine gp_0_5 (n := 16) X (AIo0 r_o) (by omega) (lay2_AI r_o) kw_2_82 dX0_begin_13 rfl ?_
  refine G.nm (fun M3 e4 => ?_)
  have IM3 : gI sz M3 := gI.set IM1 (rAI_5 r_o).1 (by omega) e4
  have CM3 : gC sz M3 := gC.set CM1 (rAI_5 r_o).2.1 e4
  refine g_aload_n (n := 17) X 0 dX0_begin_16 rfl rfl rfl ?_
  refine g_iload_n (n := 18) X 3 dX0_begin_17 rfl rfl rfl ?_
  refine gp_0_6 (n := 21) X (AIo0 r_o) (by omega) (lay2_AI r_o) kw_2_83 dX0_begin_18 rfl ?_
  refine G.nm (fun M5 e6 => ?_)
  have IM5 : gI sz M5 := gI.set IM3 (rAI_6 r_o).1 (by omega) e6
  have CM5 : gC sz M5 := gC.set CM3 (rAI_6 r_o).2.1 e6
  refine g_aload_n (n := 22) X 0 dX0_begin_21 rfl rfl rfl ?_
  refine g_iconst (n := 23) X dX0_begin_22 rfl ?_
  refine gp_0_7 (n := 26) X (AIo0 r_o) (by omega) (lay2_AI r_o) kw_2_85 dX0_begin_23 rfl ?_
  refine G.nm (fun M7 e8 => ?_)
  have IM7 : gI sz M7 := gI.set IM5 (rAI_7 r_o).1 (by omega) e8
  have CM7 : gC sz M7 := gC.set CM5 (rAI_7 r_o).2.1 e8
  refine g_iconst (n := 27) X dX0_begin_26 rfl ?_
  refine g_istore (n := 29) (L' := [(4, gJ 0), (0, gA n0 o), (1, gA n0 (oa + 1)), (2, gJ b), (3, gJ c)]) X dX0_begin_27 (by decide) rfl rfl ?_
  have j11 : ∀ (N27 : Nat) (v9 : Int) (M10 : gM) , (0 ≤ v9 ∧ v9 ≤ 10) → gI sz M10 → gC sz M10 → gFr 77371252455336267181195264 M7 M10 → (10 - v9).toNat < N27 → G p l e R_s_X0_begin_AI s m args below meth cd n0 D cA 5 Q 0 0 M10 sz 29 [(0, gA n0 o), (4, gJ v9)] [] := by
    intro N27; induction N27 with
    | zero => intro v9 M10 rv9 IM10 CM10 FM10 hm29; exfalso; omega
    | succ N27 ih28 =>
      intro v9 M10 rv9 IM10 CM10 FM10 hm29
      refine g_iload (n := 31) X 1 dX0_begin_29 rfl rfl ?_
      refine g_bipush (n := 33) X dX0_begin_31 (by decide +kernel) rfl ?_
      refine g_icmp_ge (n := 36) (tgt := 50) X dX0_begin_33 (by decide) (by omega) (by omega) rfl (fun c30 => ?_) (fun c30 => ?_)
      · exact hq _ _ _ dX0_begin_50 ⟨IM10, CM10, (gFr.c (gFr.s (gFr.s (gFr.s (gFr.y gFr.rf e2 (fun k => (rAAI_1 r_o k).2.2) rfl) e4 (rAI_5 r_o).2.2 rfl) e6 (rAI_6 r_o).2.2 rfl) e8 (rAI_7 r_o).2.2 rfl) FM10 rfl)⟩
      · refine g_aload_n (n := 37) X 0 dX0_begin_36 rfl rfl rfl ?_
        refine gg_0_1 (n := 40) (z := o + 2) X (AIo0 r_o) (by omega) (lay2_AI r_o) kw_2_73 dX0_begin_37 rfl (rfAI_1 IM10 hsz8 r_o) (AI2o0 r_o) ?_
        refine g_iload (n := 42) X 1 dX0_begin_40 rfl rfl ?_
        refine g_iconst (n := 43) X dX0_begin_42 rfl ?_
        refine g_iast (n := 44) X (AI2o0 r_o) (by omega) (lay2_AI2 r_o) (by omega) (by omega) (by decide) dX0_begin_43 rfl ?_
        refine G.nm (fun M31 e32 => ?_)
        have IM31 : gI sz M31 := gI.set IM10 (rAAI_2 r_o v9).1 (by omega) e32
        have CM31 : gC sz M31 := gC.set CM10 (rAAI_2 r_o v9).2.1 e32
        refine g_iinc (n := 47) (w := v9 + 1) (L' := [(4, gJ (v9 + 1)), (0, gA n0 o)]) X 1 dX0_begin_44 rfl rfl (by decide) rfl rfl ?_
        refine g_goto (tgt := 29) X dX0_begin_47 (by decide) ?_
        refine G.sub (L' := [(0, gA n0 o), (4, gJ (v9 + 1))]) [1, 0] rfl ?_
        exact ih28 (v9 + 1) M31 (by omega) IM31 CM31 (gFr.s (gFr.c gFr.rf FM10 rfl) e32 (rAAI_2 r_o v9).2.2 rfl) (by omega)
  refine G.sub (L' := [(0, gA n0 o), (4, gJ 0)]) [1, 0] rfl ?_
  exact j11 _ 0 M7 (by omega) IM7 CM7 gFr.rf (Nat.lt_succ_self _)
abbrev R_s_X0_copyFrom_AI : Room := { frames := 5, cells := 0, slots := 0, locals := 144 }
set_option maxRecDepth 100000 in
set_option maxHeartbeats 4000000 in
theorem s_X0_copyFrom_AI {l : Launch} {n0 : Nat} {D : va_G} {cA : Nat → ClassId} {M : gM} (o : Int) (r_o : 292 ≤ o ∧ o ≤ 352 ∧ (o - 292) % 6 = 0) (oa : Int) (r_oa : 87 ≤ oa ∧ oa ≤ 147 ∧ (oa - 87) % 6 = 0) {sz : Nat} (hsz : 206 ≤ sz) (I : gI sz M) (C : gC sz M) (hsz8 : sz = 358) (hne : ¬ oa = o)  : Met l yX0_copyFrom (gWsOf yX0_copyFrom cX0_copyFrom 2 (Option.none : Option Jvm.ClassFile.FieldType)) R_s_X0_copyFrom_AI (gPc n0 D cA [gA n0 o, gA n0 oa] M sz) (gQv n0 D cA sz (fun M1 => gI sz M1 ∧ gC sz M1 ∧ gFr 77371252455336267181195264 M M1)) 0 0 (fun q => n0 ≤ q) := by
  refine gMetV [gA n0 o, gA n0 oa] (by decide) (Nat.le_of_ble_eq_true rfl) ⟨rfl, rfl⟩ ?_
  intro p e s m args below meth cd Q X hq
  have X : gCx p s m args meth cd n0 D cA "ParishUnion$Act" cX0_copyFrom 2 := X
  show G p l e R_s_X0_copyFrom_AI s m args below meth cd n0 D cA 2 Q 0 0 M sz 0 [(0, gA n0 o), (1, gA n0 oa)] []
  refine g_aload_n (n := 1) X 0 dX0_copyFrom_0 rfl rfl rfl ?_
  refine g_aload_n (n := 2) X 1 dX0_copyFrom_1 rfl rfl rfl ?_
  refine gg_0_0 (n := 5) (z := oa + 1) X (Ao0 r_oa) (Aosz hsz r_oa) (lay2_A r_oa) kw_2_71 dX0_copyFrom_2 rfl (rfA_0 I hsz r_oa) (by omega) ?_
  refine g_aload_n (n := 6) X 1 dX0_copyFrom_5 rfl rfl rfl ?_
  obtain ⟨v1, hv1, rv1⟩ := gRd I (Ao0 r_oa) (Aosz hsz r_oa) (rA_5 r_oa).1
  refine gg_0_5 (n := 9) (z := v1) X (Ao0 r_oa) (Aosz hsz r_oa) (lay2_A r_oa) kw_2_82 dX0_copyFrom_6 rfl hv1 ?_
  refine g_aload_n (n := 10) X 1 dX0_copyFrom_9 rfl rfl rfl ?_
  obtain ⟨v2, hv2, rv2⟩ := gRd I (Ao0 r_oa) (Aosz hsz r_oa) (rA_6 r_oa).1
  refine gg_0_6 (n := 13) (z := v2) X (Ao0 r_oa) (Aosz hsz r_oa) (lay2_A r_oa) kw_2_83 dX0_copyFrom_10 rfl hv2 ?_
  refine g_callVv (n := 16) (As := [gA n0 (oa + 1), gJ v1, gJ v2]) (rest := []) (cs1 := 0) (ss1 := 0) X (s_X0_begin_AI o r_o oa r_oa v1 (by omega) v2 (by omega) hsz I C hsz8) okX0_begin kw_5_231 ⟨kw_3_204, kw_3_205⟩ ⟨rfl, rfl⟩ ⟨Nat.le_of_ble_eq_true rfl, Nat.le_of_ble_eq_true rfl⟩ rfl (AIo0 r_o) (by omega) (lay2_AI r_o) rfl rfl (Nat.le_of_ble_eq_true rfl) ⟨Nat.le_of_ble_eq_true rfl, Nat.le_of_ble_eq_true rfl⟩ rfl rfl dX0_copyFrom_13 rfl (fun M4 P5 => ?_)
  obtain ⟨IM4, CM4, FM4⟩ := P5
  refine g_aload_n (n := 17) X 1 dX0_copyFrom_16 rfl rfl rfl ?_
  refine gg_0_1 (n := 20) (z := oa + 2) X (Ao0 r_oa) (Aosz hsz r_oa) (lay2_A r_oa) kw_2_73 dX0_copyFrom_17 rfl (rfA_1 IM4 hsz r_oa) (by omega) ?_
  refine g_iconst (n := 21) X dX0_copyFrom_20 rfl ?_
  refine g_aload_n (n := 22) X 0 dX0_copyFrom_21 rfl rfl rfl ?_
  refine gg_0_1 (n := 25) (z := o + 2) X (AIo0 r_o) (by omega) (lay2_AI r_o) kw_2_73 dX0_copyFrom_22 rfl (rfAI_1 IM4 hsz8 r_o) (AI2o0 r_o) ?_
  refine g_iconst (n := 26) X dX0_copyFrom_25 rfl ?_
  refine g_bipush (n := 28) X dX0_copyFrom_26 (by decide +kernel) rfl ?_
  refine g_acopyI (n := 31) X kw_3_207 kw_3_209 kw_3_208 kw_1_16 (A2o0 r_oa) (A2osz hsz r_oa) (lay2_A2 r_oa) (AI2o0 r_o) (by omega) (lay2_AI2 r_o) (by omega) (by omega) (by omega) (by omega) (Nat.le_of_ble_eq_true rfl) (Nat.le_of_ble_eq_true rfl) dX0_copyFrom_28 rfl ?_
  refine G.nm (fun M6 e7 => ?_)
  have IM6 : gI sz M6 := gI.cpy IM4 (A2o0 r_oa) (A2osz hsz r_oa) (fun k => ((rAAI_2 r_o k).1.trans (rAA_2 r_oa k).1.symm)) e7
  have CM6 : gC sz M6 := gC.cpy CM4 (fun k => (rAAI_2 r_o k).2.1) e7
  refine g_aload_n (n := 32) X 1 dX0_copyFrom_31 rfl rfl rfl ?_
  refine gg_0_2 (n := 35) (z := oa + 3) X (Ao0 r_oa) (Aosz hsz r_oa) (lay2_A r_oa) kw_2_75 dX0_copyFrom_32 rfl (rfA_2 IM6 hsz r_oa) (by omega) ?_
  refine g_iconst (n := 36) X dX0_copyFrom_35 rfl ?_
  refine g_aload_n (n := 37) X 0 dX0_copyFrom_36 rfl rfl rfl ?_
  refine gg_0_2 (n := 40) (z := o + 3) X (AIo0 r_o) (by omega) (lay2_AI r_o) kw_2_75 dX0_copyFrom_37 rfl (rfAI_2 IM6 hsz8 r_o) (AI3o0 r_o) ?_
  refine g_iconst (n := 41) X dX0_copyFrom_40 rfl ?_
  refine g_bipush (n := 43) X dX0_copyFrom_41 (by decide +kernel) rfl ?_
  refine g_acopyI (n := 46) X kw_3_207 kw_3_209 kw_3_208 kw_1_16 (A3o0 r_oa) (A3osz hsz r_oa) (lay2_A3 r_oa) (AI3o0 r_o) (by omega) (lay2_AI3 r_o) (by omega) (by omega) (by omega) (by omega) (Nat.le_of_ble_eq_true rfl) (Nat.le_of_ble_eq_true rfl) dX0_copyFrom_43 rfl ?_
  refine G.nm (fun M8 e9 => ?_)
  have IM8 : gI sz M8 := gI.cpy IM6 (A3o0 r_oa) (A3osz hsz r_oa) (fun k => ((rAAI_3 r_o k).1.trans (rAA_3 r_oa k).1.symm)) e9
  refine g_aload_n (n := 47) X 1 dX0_copyFrom_46 rfl rfl rfl ?_
  refine gg_0_3 (n := 50) (z := oa + 4) X (Ao0 r_oa) (Aosz hsz r_oa) (lay2_A r_oa) kw_2_77 dX0_copyFrom_47 rfl (rfA_3 IM8 hsz r_oa) (by omega) ?_
  refine g_iconst (n := 51) X dX0_copyFrom_50 rfl ?_
  refine g_aload_n (n := 52) X 0 dX0_copyFrom_51 rfl rfl rfl ?_
  refine gg_0_3 (n := 55) (z := o + 4) X (AIo0 r_o) (by omega) (lay2_AI r_o) kw_2_77 dX0_copyFrom_52 rfl (rfAI_3 IM8 hsz8 r_o) (AI4o0 r_o) ?_
  refine g_iconst (n := 56) X dX0_copyFrom_55 rfl ?_
  refine g_bipush (n := 58) X dX0_copyFrom_56 (by decide +kernel) rfl ?_
  refine g_acopyI (n := 61) X kw_3_207 kw_3_209 kw_3_208 kw_1_16 (A4o0 r_oa) (A4osz hsz r_oa) (lay2_A4 r_oa) (AI4o0 r_o) (by omega) (lay2_AI4 r_o) (by omega) (by omega) (by omega) (by omega) (Nat.le_of_ble_eq_true rfl) (Nat.le_of_ble_eq_true rfl) dX0_copyFrom_58 rfl ?_
  refine G.nm (fun M10 e11 => ?_)
  have IM10 : gI sz M10 := gI.cpy IM8 (A4o0 r_oa) (A4osz hsz r_oa) (fun k => ((rAAI_4 r_o k).1.trans (rAA_4 r_oa k).1.symm)) e11
  have CM10 : gC sz M10 := gC.copyA CM6 (Or.inr ⟨r_o.1, r_o.2.1, r_o.2.2, hsz8⟩) (Or.inl r_oa) (by omega) e9 e11
  refine g_aload_n (n := 62) X 1 dX0_copyFrom_61 rfl rfl rfl ?_
  refine gg_0_4 (n := 65) (z := oa + 5) X (Ao0 r_oa) (Aosz hsz r_oa) (lay2_A r_oa) kw_2_79 dX0_copyFrom_62 rfl (rfA_4 IM10 hsz r_oa) (by omega) ?_
  refine g_iconst (n := 66) X dX0_copyFrom_65 rfl ?_
  refine g_aload_n (n := 67) X 0 dX0_copyFrom_66 rfl rfl rfl ?_
  refine gg_0_4 (n := 70) (z := o + 5) X (AIo0 r_o) (by omega) (lay2_AI r_o) kw_2_79 dX0_copyFrom_67 rfl (rfAI_4 IM10 hsz8 r_o) (AI5o0 r_o) ?_
  refine g_iconst (n := 71) X dX0_copyFrom_70 rfl ?_
  refine g_bipush (n := 73) X dX0_copyFrom_71 (by decide +kernel) rfl ?_
  refine g_acopyI (n := 76) X kw_3_207 kw_3_209 kw_3_208 kw_1_16 (A5o0 r_oa) (A5osz hsz r_oa) (lay2_A5 r_oa) (AI5o0 r_o) (by omega) (lay2_AI5 r_o) (by omega) (by omega) (by omega) (by omega) (Nat.le_of_ble_eq_true rfl) (Nat.le_of_ble_eq_true rfl) dX0_copyFrom_73 rfl ?_
  refine G.nm (fun M12 e13 => ?_)
  have IM12 : gI sz M12 := gI.cpy IM10 (A5o0 r_oa) (A5osz hsz r_oa) (fun k => ((rAAI_5 r_o k).1.trans (rAA_5 r_oa k).1.symm)) e13
  have CM12 : gC sz M12 := gC.cpy CM10 (fun k => (rAAI_5 r_o k).2.1) e13
  refine g_aload_n (n := 77) X 0 dX0_copyFrom_76 rfl rfl rfl ?_
  refine g_aload_n (n := 78) X 1 dX0_copyFrom_77 rfl rfl rfl ?_
  obtain ⟨v14, hv14, rv14⟩ := gRd IM12 (Ao0 r_oa) (Aosz hsz r_oa) (rA_7 r_oa).1
  refine gg_0_7 (n := 81) (z := v14) X (Ao0 r_oa) (Aosz hsz r_oa) (lay2_A r_oa) kw_2_85 dX0_copyFrom_78 rfl hv14 ?_
  refine gp_0_7 (n := 84) X (AIo0 r_o) (by omega) (lay2_AI r_o) kw_2_85 dX0_copyFrom_81 rfl ?_
  refine G.nm (fun M15 e16 => ?_)
  have IM15 : gI sz M15 := gI.set IM12 (rAI_7 r_o).1 (by omega) e16
  have CM15 : gC sz M15 := gC.set CM12 (rAI_7 r_o).2.1 e16
  exact hq _ _ _ dX0_copyFrom_84 ⟨IM15, CM15, (gFr.s (gFr.y (gFr.y (gFr.y (gFr.y (gFr.c gFr.rf FM4 rfl) e7 (fun k => (rAAI_2 r_o k).2.2) rfl) e9 (fun k => (rAAI_3 r_o k).2.2) rfl) e11 (fun k => (rAAI_4 r_o k).2.2) rfl) e13 (fun k => (rAAI_5 r_o k).2.2) rfl) e16 (rAI_7 r_o).2.2 rfl)⟩
