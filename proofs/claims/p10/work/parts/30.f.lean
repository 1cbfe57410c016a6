theorem dX9_actInForce_0 : decode cX9_actInForce 0 = .ok (.iconst (-1), 1) := dc_2 (by decide +kernel)
theorem dX9_actInForce_1 : decode cX9_actInForce 1 = .ok (.istore_n 3, 1) := dc_62 (by decide +kernel)
theorem dX9_actInForce_2 : decode cX9_actInForce 2 = .ok (.iconst 0, 1) := dc_3 (by decide +kernel)
theorem dX9_actInForce_3 : decode cX9_actInForce 3 = .ok (.istore 4, 2) := dc_54 4 (by decide +kernel)
theorem dX9_actInForce_5 : decode cX9_actInForce 5 = .ok (.iload 4, 2) := dc_21 4 (by decide +kernel)
theorem dX9_actInForce_7 : decode cX9_actInForce 7 = .ok (.aload_n 0, 1) := dc_42 (by decide +kernel)
theorem dX9_actInForce_8 : decode cX9_actInForce 8 = .ok (.getfield 92, 3) := dc_180 0 92 (by decide +kernel)
theorem kw_2_134 : (Jvm.Cond.fieldLink "ParishUnion$Union" (92 : Nat) "ParishUnion$Union" "actCount" "I") ∈ gT := gT_of (tb_2 _ (List.mem_of_getElem? (i := 134) rfl)) rfl
theorem rc_1_13 : gRg 1 13 = (0, 11) ∧ gCr 1 13 = false ∧ gG 1 13 = 22 := by decide +kernel
theorem dX9_actInForce_11 : decode cX9_actInForce 11 = .ok (.if_icmp .ge 81, 3) := dc_162 0 81 81 (by decide +kernel)
theorem dX9_actInForce_92 : decode cX9_actInForce 92 = .ok (.iload_n 3, 1) := dc_29 (by decide +kernel)
theorem dX9_actInForce_93 : decode cX9_actInForce 93 = .ok (.ireturn, 1) := dc_172 (by decide +kernel)
theorem dX9_actInForce_14 : decode cX9_actInForce 14 = .ok (.aload_n 0, 1) := dc_42 (by decide +kernel)
theorem dX9_actInForce_15 : decode cX9_actInForce 15 = .ok (.getfield 32, 3) := dc_180 0 32 (by decide +kernel)
theorem kw_2_112 : (Jvm.Cond.fieldLink "ParishUnion$Union" (32 : Nat) "ParishUnion$Union" "acts" "[LParishUnion$Act;") ∈ gT := gT_of (tb_2 _ (List.mem_of_getElem? (i := 112) rfl)) rfl
theorem rf_1_3 {sz : Nat} {M : gM} (I : gI sz M) (h : (1 : Int) < (sz : Int)) : M 1 3 = 7 + 1 := gI.rf I (by decide) h (by decide +kernel)
theorem dX9_actInForce_18 : decode cX9_actInForce 18 = .ok (.iload 4, 2) := dc_21 4 (by decide +kernel)
theorem dX9_actInForce_20 : decode cX9_actInForce 20 = .ok (.aaload, 1) := dc_50 (by decide +kernel)
theorem dX9_actInForce_21 : decode cX9_actInForce 21 = .ok (.getfield 136, 3) := dc_180 0 136 (by decide +kernel)
theorem kw_2_84 : (Jvm.Cond.fieldLink "ParishUnion$Union" (136 : Nat) "ParishUnion$Act" "week" "I") ∈ gT := gT_of (tb_2 _ (List.mem_of_getElem? (i := 84) rfl)) rfl
theorem dX9_actInForce_24 : decode cX9_actInForce 24 = .ok (.iload_n 2, 1) := dc_28 (by decide +kernel)
theorem dX9_actInForce_25 : decode cX9_actInForce 25 = .ok (.if_icmp .gt 23, 3) := dc_163 0 23 23 (by decide +kernel)
theorem dX9_actInForce_48 : decode cX9_actInForce 48 = .ok (.iconst 0, 1) := dc_3 (by decide +kernel)
theorem dX9_actInForce_49 : decode cX9_actInForce 49 = .ok (.istore 5, 2) := dc_54 5 (by decide +kernel)
theorem dX9_actInForce_51 : decode cX9_actInForce 51 = .ok (.iload 5, 2) := dc_21 5 (by decide +kernel)
theorem dX9_actInForce_53 : decode cX9_actInForce 53 = .ok (.ifCond .eq 33, 3) := dc_153 0 33 33 (by decide +kernel)
theorem dX9_actInForce_86 : decode cX9_actInForce 86 = .ok (.iinc 4 1, 3) := dc_132 4 1 1 (by decide +kernel)
theorem dX9_actInForce_89 : decode cX9_actInForce 89 = .ok (.goto (-84), 3) := dc_167 255 172 (-84) (by decide +kernel)
theorem dX9_actInForce_28 : decode cX9_actInForce 28 = .ok (.aload_n 0, 1) := dc_42 (by decide +kernel)
theorem dX9_actInForce_29 : decode cX9_actInForce 29 = .ok (.getfield 32, 3) := dc_180 0 32 (by decide +kernel)
theorem dX9_actInForce_32 : decode cX9_actInForce 32 = .ok (.iload 4, 2) := dc_21 4 (by decide +kernel)
theorem dX9_actInForce_34 : decode cX9_actInForce 34 = .ok (.aaload, 1) := dc_50 (by decide +kernel)
theorem dX9_actInForce_35 : decode cX9_actInForce 35 = .ok (.getfield 139, 3) := dc_180 0 139 (by decide +kernel)
theorem kw_2_74 : (Jvm.Cond.fieldLink "ParishUnion$Union" (139 : Nat) "ParishUnion$Act" "says" "[I") ∈ gT := gT_of (tb_2 _ (List.mem_of_getElem? (i := 74) rfl)) rfl
theorem dX9_actInForce_38 : decode cX9_actInForce 38 = .ok (.iload_n 1, 1) := dc_27 (by decide +kernel)
theorem dX9_actInForce_39 : decode cX9_actInForce 39 = .ok (.iaload, 1) := dc_46 (by decide +kernel)
theorem dX9_actInForce_40 : decode cX9_actInForce 40 = .ok (.iconst (-1), 1) := dc_2 (by decide +kernel)
theorem dX9_actInForce_41 : decode cX9_actInForce 41 = .ok (.if_icmp .eq 7, 3) := dc_159 0 7 7 (by decide +kernel)
theorem dX9_actInForce_44 : decode cX9_actInForce 44 = .ok (.iconst 1, 1) := dc_4 (by decide +kernel)
theorem dX9_actInForce_45 : decode cX9_actInForce 45 = .ok (.goto 4, 3) := dc_167 0 4 4 (by decide +kernel)
theorem dX9_actInForce_56 : decode cX9_actInForce 56 = .ok (.iload_n 3, 1) := dc_29 (by decide +kernel)
theorem dX9_actInForce_57 : decode cX9_actInForce 57 = .ok (.iconst (-1), 1) := dc_2 (by decide +kernel)
theorem dX9_actInForce_58 : decode cX9_actInForce 58 = .ok (.if_icmp .eq 25, 3) := dc_159 0 25 25 (by decide +kernel)
theorem dX9_actInForce_83 : decode cX9_actInForce 83 = .ok (.iload 4, 2) := dc_21 4 (by decide +kernel)
theorem dX9_actInForce_85 : decode cX9_actInForce 85 = .ok (.istore_n 3, 1) := dc_62 (by decide +kernel)
theorem dX9_actInForce_61 : decode cX9_actInForce 61 = .ok (.aload_n 0, 1) := dc_42 (by decide +kernel)
theorem dX9_actInForce_62 : decode cX9_actInForce 62 = .ok (.getfield 32, 3) := dc_180 0 32 (by decide +kernel)
theorem dX9_actInForce_65 : decode cX9_actInForce 65 = .ok (.iload 4, 2) := dc_21 4 (by decide +kernel)
theorem dX9_actInForce_67 : decode cX9_actInForce 67 = .ok (.aaload, 1) := dc_50 (by decide +kernel)
theorem dX9_actInForce_68 : decode cX9_actInForce 68 = .ok (.getfield 136, 3) := dc_180 0 136 (by decide +kernel)
theorem dX9_actInForce_71 : decode cX9_actInForce 71 = .ok (.aload_n 0, 1) := dc_42 (by decide +kernel)
theorem dX9_actInForce_72 : decode cX9_actInForce 72 = .ok (.getfield 32, 3) := dc_180 0 32 (by decide +kernel)
theorem dX9_actInForce_75 : decode cX9_actInForce 75 = .ok (.iload_n 3, 1) := dc_29 (by decide +kernel)
theorem dX9_actInForce_76 : decode cX9_actInForce 76 = .ok (.aaload, 1) := dc_50 (by decide +kernel)
theorem dX9_actInForce_77 : decode cX9_actInForce 77 = .ok (.getfield 136, 3) := dc_180 0 136 (by decide +kernel)
theorem dX9_actInForce_80 : decode cX9_actInForce 80 = .ok (.if_icmp .lt 6, 3) := dc_161 0 6 6 (by decide +kernel)
abbrev R_X9_actInForce : Room := { frames := 0, cells := 0, slots := 0, locals := 0 }
set_option maxRecDepth 100000 in
set_option maxHeartbeats 4000000 in
theorem s_X9_actInForce {l : Launch} {n0 : Nat} {D : va_G} {cA : Nat → ClassId} {M : gM} (a : Int) (r_a : 0 ≤ a ∧ a ≤ 9) (b : Int) (r_b : 0 ≤ b ∧ b ≤ 300) {sz : Nat} (hsz : 206 ≤ sz) (I : gI sz M) (C : gC sz M)   : Met l yX9_actInForce (gWsOf yX9_actInForce cX9_actInForce 6 (Option.some Jvm.ClassFile.FieldType.int)) R_X9_actInForce (gPc n0 D cA [gA n0 1, gJ a, gJ b] M sz) (gQi n0 D cA sz (fun z M1 => M = M1 ∧ (-1 ≤ z ∧ z ≤ 10))) 0 0 (fun q => n0 ≤ q) := by
  refine gMetI [gA n0 1, gJ a, gJ b] (by decide) (Nat.le_of_ble_eq_true rfl) ⟨rfl, rfl⟩ ?_
  intro p e s m args below meth cd Q X hq
  have X : gCx p s m args meth cd n0 D cA "ParishUnion$Union" cX9_actInForce 6 := X
  show G p l e R_X9_actInForce s m args below meth cd n0 D cA 6 Q 0 0 M sz 0 [(0, gA n0 1), (1, gJ a), (2, gJ b)] []
  refine g_iconst (n := 1) X dX9_actInForce_0 rfl ?_
  refine g_istore_n (n := 2) (L' := [(3, gJ (-1)), (0, gA n0 1), (1, gJ a), (2, gJ b)]) X dX9_actInForce_1 rfl (by decide) rfl rfl ?_
  refine g_iconst (n := 3) X dX9_actInForce_2 rfl ?_
  refine g_istore (n := 5) (L' := [(4, gJ 0), (3, gJ (-1)), (0, gA n0 1), (1, gJ a), (2, gJ b)]) X dX9_actInForce_3 (by decide) rfl rfl ?_
  have j4 : ∀ (N86 : Nat) (v1 v2 : Int) , (-1 ≤ v1 ∧ v1 ≤ 10) → (0 ≤ v2 ∧ v2 ≤ 11) → (11 - v2).toNat < N86 → G p l e R_X9_actInForce s m args below meth cd n0 D cA 6 Q 0 0 M sz 5 [(0, gA n0 1), (1, gJ a), (2, gJ b), (3, gJ v1), (4, gJ v2)] [] := by
    intro N86; induction N86 with
    | zero => intro v1 v2 rv1 rv2 hm88; exfalso; omega
    | succ N86 ih87 =>
      intro v1 v2 rv1 rv2 hm88
      refine g_iload (n := 7) X 4 dX9_actInForce_5 rfl rfl ?_
      refine g_aload_n (n := 8) X 0 dX9_actInForce_7 rfl rfl rfl ?_
      obtain ⟨v89, hv89, rv89⟩ := gRd I (by decide) (gsz hsz (by decide)) rc_1_13.1
      refine gg_9_13 (n := 11) (z := v89) X (by decide) (gsz hsz (by decide)) lay_1 kw_2_134 dX9_actInForce_8 rfl hv89 ?_
      refine g_icmp_ge (n := 14) (tgt := 92) X dX9_actInForce_11 (by decide) (by omega) (by omega) rfl (fun c90 => ?_) (fun c90 => ?_)
      · refine g_iload_n (n := 93) X 3 dX9_actInForce_92 rfl rfl rfl ?_
        exact hq _ _ _ _ dX9_actInForce_93 ⟨rfl, by omega⟩
      · refine g_aload_n (n := 15) X 0 dX9_actInForce_14 rfl rfl rfl ?_
        refine gg_9_3 (n := 18) (z := 7) X (by decide) (gsz hsz (by decide)) lay_1 kw_2_112 dX9_actInForce_15 rfl (rf_1_3 I (gsz hsz (by decide))) (by decide) ?_
        refine g_iload (n := 20) X 4 dX9_actInForce_18 rfl rfl ?_
        obtain ⟨o91, ho91, ro91⟩ : ∃ o : Int, o = 87 + 6 * v2 ∧ (87 ≤ o ∧ o ≤ 147 ∧ (o - 87) % 6 = 0) := ⟨_, rfl, by omega⟩
        refine g_aald5 (n := 21) (t := o91) X (by decide) (gsz hsz (by decide)) lay_7 (by omega) (by omega) (by decide) (gA7 I hsz (by omega) (by omega) (by omega)) (by omega) dX9_actInForce_20 rfl ?_
        obtain ⟨v92, hv92, rv92⟩ := gRd I (Ao0 ro91) (Aosz hsz ro91) (rA_6 ro91).1
        refine gg_0_6 (n := 24) (z := v92) X (Ao0 ro91) (Aosz hsz ro91) (lay2_A ro91) kw_2_84 dX9_actInForce_21 rfl hv92 ?_
        refine g_iload_n (n := 25) X 2 dX9_actInForce_24 rfl rfl rfl ?_
        refine g_icmp_gt (n := 28) (tgt := 48) X dX9_actInForce_25 (by decide) (by omega) (by omega) rfl (fun c93 => ?_) (fun c93 => ?_)
        · refine g_iconst (n := 49) X dX9_actInForce_48 rfl ?_
          refine g_istore (n := 51) (L' := [(5, gJ 0), (0, gA n0 1), (1, gJ a), (2, gJ b), (3, gJ v1), (4, gJ v2)]) X dX9_actInForce_49 (by decide) rfl rfl ?_
          refine g_iload (n := 53) X 0 dX9_actInForce_51 rfl rfl ?_
          refine g_if_eq (n := 56) (tgt := 86) X dX9_actInForce_53 (by decide) (by omega) rfl (fun c94 => ?_) (fun c94 => by exfalso; omega)
          refine g_iinc (n := 89) (w := v2 + 1) (L' := [(4, gJ (v2 + 1)), (5, gJ 0), (0, gA n0 1), (1, gJ a), (2, gJ b), (3, gJ v1)]) X 5 dX9_actInForce_86 rfl rfl (by decide) rfl rfl ?_
          refine g_goto (tgt := 5) X dX9_actInForce_89 (by decide) ?_
          refine G.sub (L' := [(0, gA n0 1), (1, gJ a), (2, gJ b), (3, gJ v1), (4, gJ (v2 + 1))]) [2, 3, 4, 5, 0] rfl ?_
          exact ih87 v1 (v2 + 1) (by omega) (by omega) (by omega)
        · refine g_aload_n (n := 29) X 0 dX9_actInForce_28 rfl rfl rfl ?_
          refine gg_9_3 (n := 32) (z := 7) X (by decide) (gsz hsz (by decide)) lay_1 kw_2_112 dX9_actInForce_29 rfl (rf_1_3 I (gsz hsz (by decide))) (by decide) ?_
          refine g_iload (n := 34) X 4 dX9_actInForce_32 rfl rfl ?_
          refine g_aald5 (n := 35) (t := o91) X (by decide) (gsz hsz (by decide)) lay_7 (by omega) (by omega) (by decide) (gA7 I hsz (by omega) (by omega) (by omega)) (by omega) dX9_actInForce_34 rfl ?_
          refine gg_0_1 (n := 38) (z := o91 + 2) X (Ao0 ro91) (Aosz hsz ro91) (lay2_A ro91) kw_2_74 dX9_actInForce_35 rfl (rfA_1 I hsz ro91) (by omega) ?_
          refine g_iload_n (n := 39) X 1 dX9_actInForce_38 rfl rfl rfl ?_
          obtain ⟨v95, hv95, rv95⟩ := gRd I (A2o0 ro91) (A2osz hsz ro91) (rAA_2 ro91 a).1
          refine g_iald2 (n := 40) (v := v95) X (A2o0 ro91) (A2osz hsz ro91) (lay2_A2 ro91) (by omega) (by omega) (by decide) dX9_actInForce_39 rfl hv95 ?_
          refine g_iconst (n := 41) X dX9_actInForce_40 rfl ?_
          refine g_icmp_eq (n := 44) (tgt := 48) X dX9_actInForce_41 (by decide) (by omega) (by omega) rfl (fun c96 => ?_) (fun c96 => ?_)
          · refine g_iconst (n := 49) X dX9_actInForce_48 rfl ?_
            refine g_istore (n := 51) (L' := [(5, gJ 0), (0, gA n0 1), (1, gJ a), (2, gJ b), (3, gJ v1), (4, gJ v2)]) X dX9_actInForce_49 (by decide) rfl rfl ?_
            refine g_iload (n := 53) X 0 dX9_actInForce_51 rfl rfl ?_
            refine g_if_eq (n := 56) (tgt := 86) X dX9_actInForce_53 (by decide) (by omega) rfl (fun c97 => ?_) (fun c97 => by exfalso; omega)
            refine g_iinc (n := 89) (w := v2 + 1) (L' := [(4, gJ (v2 + 1)), (5, gJ 0), (0, gA n0 1), (1, gJ a), (2, gJ b), (3, gJ v1)]) X 5 dX9_actInForce_86 rfl rfl (by decide) rfl rfl ?_
            refine g_goto (tgt := 5) X dX9_actInForce_89 (by decide) ?_
            refine G.sub (L' := [(0, gA n0 1), (1, gJ a), (2, gJ b), (3, gJ v1), (4, gJ (v2 + 1))]) [2, 3, 4, 5, 0] rfl ?_
            exact ih87 v1 (v2 + 1) (by omega) (by omega) (by omega)
          · refine g_iconst (n := 45) X dX9_actInForce_44 rfl ?_
            refine g_goto (tgt := 49) X dX9_actInForce_45 (by decide) ?_
            refine g_istore (n := 51) (L' := [(5, gJ 1), (0, gA n0 1), (1, gJ a), (2, gJ b), (3, gJ v1), (4, gJ v2)]) X dX9_actInForce_49 (by decide) rfl rfl ?_
            refine g_iload (n := 53) X 0 dX9_actInForce_51 rfl rfl ?_
            refine g_if_eq (n := 56) (tgt := 86) X dX9_actInForce_53 (by decide) (by omega) rfl (fun c98 => by exfalso; omega) (fun c98 => ?_)
            refine g_iload_n (n := 57) X 4 dX9_actInForce_56 rfl rfl rfl ?_
            refine g_iconst (n := 58) X dX9_actInForce_57 rfl ?_
            refine g_icmp_eq (n := 61) (tgt := 83) X dX9_actInForce_58 (by decide) (by omega) (by omega) rfl (fun c99 => ?_) (fun c99 => ?_)
            · refine g_iload (n := 85) X 5 dX9_actInForce_83 rfl rfl ?_
              refine g_istore_n (n := 86) (L' := [(3, gJ v2), (5, gJ 1), (0, gA n0 1), (1, gJ a), (2, gJ b), (4, gJ v2)]) X dX9_actInForce_85 rfl (by decide) rfl rfl ?_
              refine g_iinc (n := 89) (w := v2 + 1) (L' := [(4, gJ (v2 + 1)), (3, gJ v2), (5, gJ 1), (0, gA n0 1), (1, gJ a), (2, gJ b)]) X 5 dX9_actInForce_86 rfl rfl (by decide) rfl rfl ?_
              refine g_goto (tgt := 5) X dX9_actInForce_89 (by decide) ?_
              refine G.sub (L' := [(0, gA n0 1), (1, gJ a), (2, gJ b), (3, gJ v2), (4, gJ (v2 + 1))]) [3, 4, 5, 1, 0] rfl ?_
              exact ih87 v2 (v2 + 1) (by omega) (by omega) (by omega)
            · refine g_aload_n (n := 62) X 1 dX9_actInForce_61 rfl rfl rfl ?_
              refine gg_9_3 (n := 65) (z := 7) X (by decide) (gsz hsz (by decide)) lay_1 kw_2_112 dX9_actInForce_62 rfl (rf_1_3 I (gsz hsz (by decide))) (by decide) ?_
              refine g_iload (n := 67) X 5 dX9_actInForce_65 rfl rfl ?_
              refine g_aald5 (n := 68) (t := o91) X (by decide) (gsz hsz (by decide)) lay_7 (by omega) (by omega) (by decide) (gA7 I hsz (by omega) (by omega) (by omega)) (by omega) dX9_actInForce_67 rfl ?_
              refine gg_0_6 (n := 71) (z := v92) X (Ao0 ro91) (Aosz hsz ro91) (lay2_A ro91) kw_2_84 dX9_actInForce_68 rfl hv92 ?_
              refine g_aload_n (n := 72) X 1 dX9_actInForce_71 rfl rfl rfl ?_
              refine gg_9_3 (n := 75) (z := 7) X (by decide) (gsz hsz (by decide)) lay_1 kw_2_112 dX9_actInForce_72 rfl (rf_1_3 I (gsz hsz (by decide))) (by decide) ?_
              refine g_iload_n (n := 76) X 4 dX9_actInForce_75 rfl rfl rfl ?_
              obtain ⟨o100, ho100, ro100⟩ : ∃ o : Int, o = 87 + 6 * v1 ∧ (87 ≤ o ∧ o ≤ 147 ∧ (o - 87) % 6 = 0) := ⟨_, rfl, by omega⟩
              refine g_aald5 (n := 77) (t := o100) X (by decide) (gsz hsz (by decide)) lay_7 (by omega) (by omega) (by decide) (gA7 I hsz (by omega) (by omega) (by omega)) (by omega) dX9_actInForce_76 rfl ?_
              obtain ⟨v101, hv101, rv101⟩ := gRd I (Ao0 ro100) (Aosz hsz ro100) (rA_6 ro100).1
              refine gg_0_6 (n := 80) (z := v101) X (Ao0 ro100) (Aosz hsz ro100) (lay2_A ro100) kw_2_84 dX9_actInForce_77 rfl hv101 ?_
              refine g_icmp_lt (n := 83) (tgt := 86) X dX9_actInForce_80 (by decide) (by omega) (by omega) rfl (fun c102 => ?_) (fun c102 => ?_)
              · refine g_iinc (n := 89) (w := v2 + 1) (L' := [(4, gJ (v2 + 1)), (5, gJ 1), (0, gA n0 1), (1, gJ a), (2, gJ b), (3, gJ v1)]) X 5 dX9_actInForce_86 rfl rfl (by decide) rfl rfl ?_
                refine g_goto (tgt := 5) X dX9_actInForce_89 (by decide) ?_
                refine G.sub (L' := [(0, gA n0 1), (1, gJ a), (2, gJ b), (3, gJ v1), (4, gJ (v2 + 1))]) [2, 3, 4, 5, 0] rfl ?_
                exact ih87 v1 (v2 + 1) (by omega) (by omega) (by omega)
              · refine g_iload (n := 85) X 5 dX9_actInForce_83 rfl rfl ?_
                refine g_istore_n (n := 86) (L' := [(3, gJ v2), (5, gJ 1), (0, gA n0 1), (1, gJ a), (2, gJ b), (4, gJ v2)]) X dX9_actInForce_85 rfl (by decide) rfl rfl ?_
                refine g_iinc (n := 89) (w := v2 + 1) (L' := [(4, gJ (v2 + 1)), (3, gJ v2), (5, gJ 1), (0, gA n0 1), (1, gJ a), (2, gJ b)]) X 5 dX9_actInForce_86 rfl rfl (by decide) rfl rfl ?_
                refine g_goto (tgt := 5) X dX9_actInForce_89 (by decide) ?_
                refine G.sub (L' := [(0, gA n0 1), (1, gJ a), (2, gJ b), (3, gJ v2), (4, gJ (v2 + 1))]) [3, 4, 5, 1, 0] rfl ?_
                exact ih87 v2 (v2 + 1) (by omega) (by omega) (by omega)
  refine G.sub (L' := [(0, gA n0 1), (1, gJ a), (2, gJ b), (3, gJ (-1)), (4, gJ 0)]) [2, 3, 4, 1, 0] rfl ?_
  exact j4 _ (-1) 0 (by omega) (by omega) (Nat.lt_succ_self _)
theorem dX9_law_0 : decode cX9_law 0 = .ok (.aload_n 0, 1) := dc_42 (by decide +kernel)
theorem dX9_law_1 : decode cX9_law 1 = .ok (.iload_n 1, 1) := dc_27 (by decide +kernel)
theorem dX9_law_2 : decode cX9_law 2 = .ok (.iload_n 2, 1) := dc_28 (by decide +kernel)
theorem dX9_law_3 : decode cX9_law 3 = .ok (.invokevirtual 142, 3) := dc_182 0 142 (by decide +kernel)
theorem kw_3_141 : (Jvm.Cond.methodLink "ParishUnion$Union" (142 : Nat) ({ cls := "ParishUnion$Union", name := "actInForce", desc := "(II)I" } : Jvm.MethodName)) ∈ gT := gT_of (tb_3 _ (List.mem_of_getElem? (i := 141) rfl)) rfl
theorem kw_3_144 : (Jvm.Cond.code ({ cls := "ParishUnion$Union", name := "actInForce", desc := "(II)I" } : Jvm.MethodName) prog_11_method_4_code (6 : Nat) (Option.some Jvm.ClassFile.FieldType.int)) ∈ gT := gT_of (tb_3 _ (List.mem_of_getElem? (i := 144) rfl)) rfl
theorem kw_1_2 : (Jvm.Cond.initialized "ParishUnion$Union") ∈ gT := gT_of (tb_1 _ (List.mem_of_getElem? (i := 2) rfl)) rfl
theorem okX9_actInForce : gQok yX9_actInForce cX9_actInForce 6 (Option.some Jvm.ClassFile.FieldType.int) 2 := ⟨kw_3_144, kw_1_2, by decide +kernel, by decide +kernel, by decide +kernel⟩
theorem kw_3_142 : (Jvm.Cond.instanceMethod ({ cls := "ParishUnion$Union", name := "actInForce", desc := "(II)I" } : Jvm.MethodName)) ∈ gT := gT_of (tb_3 _ (List.mem_of_getElem? (i := 142) rfl)) rfl
theorem kw_3_143 : (Jvm.Cond.selects "ParishUnion$Union" ({ cls := "ParishUnion$Union", name := "actInForce", desc := "(II)I" } : Jvm.MethodName) ({ cls := "ParishUnion$Union", name := "actInForce", desc := "(II)I" } : Jvm.MethodName)) ∈ gT := gT_of (tb_3 _ (List.mem_of_getElem? (i := 143) rfl)) rfl
theorem dX9_law_6 : decode cX9_law 6 = .ok (.istore_n 3, 1) := dc_62 (by decide +kernel)
theorem dX9_law_7 : decode cX9_law 7 = .ok (.iload_n 3, 1) := dc_29 (by decide +kernel)
theorem dX9_law_8 : decode cX9_law 8 = .ok (.iconst (-1), 1) := dc_2 (by decide +kernel)
theorem dX9_law_9 : decode cX9_law 9 = .ok (.if_icmp .ne 11, 3) := dc_160 0 11 11 (by decide +kernel)
theorem dX9_law_20 : decode cX9_law 20 = .ok (.aload_n 0, 1) := dc_42 (by decide +kernel)
theorem dX9_law_21 : decode cX9_law 21 = .ok (.getfield 32, 3) := dc_180 0 32 (by decide +kernel)
theorem dX9_law_24 : decode cX9_law 24 = .ok (.iload_n 3, 1) := dc_29 (by decide +kernel)
theorem dX9_law_25 : decode cX9_law 25 = .ok (.aaload, 1) := dc_50 (by decide +kernel)
theorem dX9_law_26 : decode cX9_law 26 = .ok (.getfield 139, 3) := dc_180 0 139 (by decide +kernel)
theorem dX9_law_29 : decode cX9_law 29 = .ok (.iload_n 1, 1) := dc_27 (by decide +kernel)
theorem dX9_law_30 : decode cX9_law 30 = .ok (.iaload, 1) := dc_46 (by decide +kernel)
theorem dX9_law_31 : decode cX9_law 31 = .ok (.ireturn, 1) := dc_172 (by decide +kernel)
theorem dX9_law_12 : decode cX9_law 12 = .ok (.getstatic 146, 3) := dc_178 0 146 (by decide +kernel)
theorem dX9_law_15 : decode cX9_law 15 = .ok (.iload_n 1, 1) := dc_27 (by decide +kernel)
theorem dX9_law_16 : decode cX9_law 16 = .ok (.iaload, 1) := dc_46 (by decide +kernel)
theorem dX9_law_17 : decode cX9_law 17 = .ok (.goto 14, 3) := dc_167 0 14 14 (by decide +kernel)
abbrev R_X9_law : Room := { frames := 1, cells := 0, slots := 0, locals := 25 }
set_option maxRecDepth 100000 in
set_option maxHeartbeats 4000000 in
theorem s_X9_law {l : Launch} {n0 : Nat} {D : va_G} {cA : Nat → ClassId} {M : gM} (a : Int) (r_a : 0 ≤ a ∧ a ≤ 9) (b : Int) (r_b : 0 ≤ b ∧ b ≤ 300) {sz : Nat} (hsz : 206 ≤ sz) (I : gI sz M) (C : gC sz M)   : Met l yX9_law (gWsOf yX9_law cX9_law 4 (Option.some Jvm.ClassFile.FieldType.int)) R_X9_law (gPc n0 D cA [gA n0 1, gJ a, gJ b] M sz) (gQi n0 D cA sz (fun z M1 => M = M1 ∧ (-2147483648 ≤ z ∧ z ≤ 2147483647))) 0 0 (fun q => n0 ≤ q) := by
  refine gMetI [gA n0 1, gJ a, gJ b] (by decide) (Nat.le_of_ble_eq_true rfl) ⟨rfl, rfl⟩ ?_
  intro p e s m args below meth cd Q X hq
  have X : gCx p s m args meth cd n0 D cA "ParishUnion$Union" cX9_law 4 := X
  show G p l e R_X9_law s m args below meth cd n0 D cA 4 Q 0 0 M sz 0 [(0, gA n0 1), (1, gJ a), (2, gJ b)] []
  refine g_aload_n (n := 1) X 0 dX9_law_0 rfl rfl rfl ?_
  refine g_iload_n (n := 2) X 1 dX9_law_1 rfl rfl rfl ?_
  refine g_iload_n (n := 3) X 2 dX9_law_2 rfl rfl rfl ?_
  refine g_callVi (n := 6) (As := [gJ a, gJ b]) (rest := []) (cs1 := 0) (ss1 := 0) X (s_X9_actInForce a (by omega) b (by omega) hsz I C ) okX9_actInForce kw_3_141 ⟨kw_3_142, kw_3_143⟩ ⟨rfl, rfl⟩ ⟨Nat.le_of_ble_eq_true rfl, Nat.le_of_ble_eq_true rfl⟩ rfl (by decide) (gsz hsz (by decide)) lay_1 rfl rfl (Nat.le_of_ble_eq_true rfl) ⟨Nat.le_of_ble_eq_true rfl, Nat.le_of_ble_eq_true rfl⟩ rfl rfl dX9_law_3 rfl (fun v1 M2 P3 => ?_)
  obtain ⟨rfl, rv1⟩ := P3
  refine g_istore_n (n := 7) (L' := [(3, gJ v1), (0, gA n0 1), (1, gJ a), (2, gJ b)]) X dX9_law_6 rfl (by decide) rfl rfl ?_
  refine g_iload_n (n := 8) X 0 dX9_law_7 rfl rfl rfl ?_
  refine g_iconst (n := 9) X dX9_law_8 rfl ?_
  refine g_icmp_ne (n := 12) (tgt := 20) X dX9_law_9 (by decide) (by omega) (by omega) rfl (fun c4 => ?_) (fun c4 => ?_)
  · refine g_aload_n (n := 21) X 1 dX9_law_20 rfl rfl rfl ?_
    refine gg_9_3 (n := 24) (z := 7) X (by decide) (gsz hsz (by decide)) lay_1 kw_2_112 dX9_law_21 rfl (rf_1_3 I (gsz hsz (by decide))) (by decide) ?_
    refine g_iload_n (n := 25) X 0 dX9_law_24 rfl rfl rfl ?_
    obtain ⟨o5, ho5, ro5⟩ : ∃ o : Int, o = 87 + 6 * v1 ∧ (87 ≤ o ∧ o ≤ 147 ∧ (o - 87) % 6 = 0) := ⟨_, rfl, by omega⟩
    refine g_aald5 (n := 26) (t := o5) X (by decide) (gsz hsz (by decide)) lay_7 (by omega) (by omega) (by decide) (gA7 I hsz (by omega) (by omega) (by omega)) (by omega) dX9_law_25 rfl ?_
    refine gg_0_1 (n := 29) (z := o5 + 2) X (Ao0 ro5) (Aosz hsz ro5) (lay2_A ro5) kw_2_74 dX9_law_26 rfl (rfA_1 I hsz ro5) (by omega) ?_
    refine g_iload_n (n := 30) X 2 dX9_law_29 rfl rfl rfl ?_
    obtain ⟨v6, hv6, rv6⟩ := gRd I (A2o0 ro5) (A2osz hsz ro5) (rAA_2 ro5 a).1
    refine g_iald2 (n := 31) (v := v6) X (A2o0 ro5) (A2osz hsz ro5) (lay2_A2 ro5) (by omega) (by omega) (by decide) dX9_law_30 rfl hv6 ?_
    exact hq _ _ _ _ dX9_law_31 ⟨rfl, by omega⟩
  · refine g_getsWA (n := 15) (host := "ParishUnion") X (by decide +kernel) rfl dX9_law_12 rfl (fun b7 hb7 => ?_)
    refine g_iload_n (n := 16) X 2 dX9_law_15 rfl rfl rfl ?_
    obtain ⟨y8, hy8, ry8, ky8⟩ := gWA_of2 (i := a) (by omega) (by omega)
    refine g_oldld (n := 17) (z := y8) X hb7 (by omega) (by omega) (by omega) dX9_law_16 rfl hy8 ?_
    refine g_goto (tgt := 31) X dX9_law_17 (by decide) ?_
    exact hq _ _ _ _ dX9_law_31 ⟨rfl, by omega⟩
theorem dX9_personsAt_0 : decode cX9_personsAt 0 = .ok (.iconst 0, 1) := dc_3 (by decide +kernel)
theorem dX9_personsAt_1 : decode cX9_personsAt 1 = .ok (.istore_n 2, 1) := dc_61 (by decide +kernel)
theorem dX9_personsAt_2 : decode cX9_personsAt 2 = .ok (.iconst 0, 1) := dc_3 (by decide +kernel)
theorem dX9_personsAt_3 : decode cX9_personsAt 3 = .ok (.istore_n 3, 1) := dc_62 (by decide +kernel)
theorem dX9_personsAt_4 : decode cX9_personsAt 4 = .ok (.iload_n 3, 1) := dc_29 (by decide +kernel)
theorem dX9_personsAt_5 : decode cX9_personsAt 5 = .ok (.aload_n 0, 1) := dc_42 (by decide +kernel)
theorem dX9_personsAt_6 : decode cX9_personsAt 6 = .ok (.getfield 79, 3) := dc_180 0 79 (by decide +kernel)
theorem kw_2_126 : (Jvm.Cond.fieldLink "ParishUnion$Union" (79 : Nat) "ParishUnion$Union" "personCount" "I") ∈ gT := gT_of (tb_2 _ (List.mem_of_getElem? (i := 126) rfl)) rfl
theorem dX9_personsAt_9 : decode cX9_personsAt 9 = .ok (.if_icmp .ge 25, 3) := dc_162 0 25 25 (by decide +kernel)
theorem dX9_personsAt_34 : decode cX9_personsAt 34 = .ok (.iload_n 2, 1) := dc_28 (by decide +kernel)
theorem dX9_personsAt_35 : decode cX9_personsAt 35 = .ok (.ireturn, 1) := dc_172 (by decide +kernel)
theorem dX9_personsAt_12 : decode cX9_personsAt 12 = .ok (.aload_n 0, 1) := dc_42 (by decide +kernel)
theorem dX9_personsAt_13 : decode cX9_personsAt 13 = .ok (.getfield 20, 3) := dc_180 0 20 (by decide +kernel)
theorem kw_2_106 : (Jvm.Cond.fieldLink "ParishUnion$Union" (20 : Nat) "ParishUnion$Union" "persons" "[LParishUnion$Person;") ∈ gT := gT_of (tb_2 _ (List.mem_of_getElem? (i := 106) rfl)) rfl
theorem rf_1_1 {sz : Nat} {M : gM} (I : gI sz M) (h : (1 : Int) < (sz : Int)) : M 1 1 = 5 + 1 := gI.rf I (by decide) h (by decide +kernel)
theorem dX9_personsAt_16 : decode cX9_personsAt 16 = .ok (.iload_n 3, 1) := dc_29 (by decide +kernel)
theorem dX9_personsAt_17 : decode cX9_personsAt 17 = .ok (.aaload, 1) := dc_50 (by decide +kernel)
theorem dX9_personsAt_18 : decode cX9_personsAt 18 = .ok (.getfield 168, 3) := dc_180 0 168 (by decide +kernel)
theorem kw_1_195 : (Jvm.Cond.fieldLink "ParishUnion$Union" (168 : Nat) "ParishUnion$Person" "at" "I") ∈ gT := gT_of (tb_1 _ (List.mem_of_getElem? (i := 195) rfl)) rfl
theorem dX9_personsAt_21 : decode cX9_personsAt 21 = .ok (.iload_n 1, 1) := dc_27 (by decide +kernel)
theorem dX9_personsAt_22 : decode cX9_personsAt 22 = .ok (.if_icmp .ne 6, 3) := dc_160 0 6 6 (by decide +kernel)
theorem dX9_personsAt_28 : decode cX9_personsAt 28 = .ok (.iinc 3 1, 3) := dc_132 3 1 1 (by decide +kernel)
theorem dX9_personsAt_31 : decode cX9_personsAt 31 = .ok (.goto (-27), 3) := dc_167 255 229 (-27) (by decide +kernel)
theorem dX9_personsAt_25 : decode cX9_personsAt 25 = .ok (.iinc 2 1, 3) := dc_132 2 1 1 (by decide +kernel)
abbrev R_X9_personsAt : Room := { frames := 0, cells := 0, slots := 0, locals := 0 }
set_option maxRecDepth 100000 in
set_option maxHeartbeats 4000000 in
theorem s_X9_personsAt {l : Launch} {n0 : Nat} {D : va_G} {cA : Nat → ClassId} {M : gM} (a : Int) (r_a : -2147483648 ≤ a ∧ a ≤ 2147483647) {sz : Nat} (hsz : 206 ≤ sz) (I : gI sz M) (C : gC sz M)   : Met l yX9_personsAt (gWsOf yX9_personsAt cX9_personsAt 4 (Option.some Jvm.ClassFile.FieldType.int)) R_X9_personsAt (gPc n0 D cA [gA n0 1, gJ a] M sz) (gQi n0 D cA sz (fun z M1 => M = M1 ∧ (-2147483648 ≤ z ∧ z ≤ 2147483647))) 0 0 (fun q => n0 ≤ q) := by
  refine gMetI [gA n0 1, gJ a] (by decide) (Nat.le_of_ble_eq_true rfl) ⟨rfl, rfl⟩ ?_
  intro p e s m args below meth cd Q X hq
  have X : gCx p s m args meth cd n0 D cA "ParishUnion$Union" cX9_personsAt 4 := X
  show G p l e R_X9_personsAt s m args below meth cd n0 D cA 4 Q 0 0 M sz 0 [(0, gA n0 1), (1, gJ a)] []
  refine g_iconst (n := 1) X dX9_personsAt_0 rfl ?_
  refine g_istore_n (n := 2) (L' := [(2, gJ 0), (0, gA n0 1), (1, gJ a)]) X dX9_personsAt_1 rfl (by decide) rfl rfl ?_
  refine g_iconst (n := 3) X dX9_personsAt_2 rfl ?_
  refine g_istore_n (n := 4) (L' := [(3, gJ 0), (2, gJ 0), (0, gA n0 1), (1, gJ a)]) X dX9_personsAt_3 rfl (by decide) rfl rfl ?_
  have j4 : ∀ (N67 : Nat) (v1 v2 : Int) , (-2147483648 ≤ v1 ∧ v1 ≤ 2147483647) → (0 ≤ v2 ∧ v2 ≤ 16) → (16 - v2).toNat < N67 → G p l e R_X9_personsAt s m args below meth cd n0 D cA 4 Q 0 0 M sz 4 [(0, gA n0 1), (1, gJ a), (2, gJ v1), (3, gJ v2)] [] := by
    intro N67; induction N67 with
    | zero => intro v1 v2 rv1 rv2 hm69; exfalso; omega
    | succ N67 ih68 =>
      intro v1 v2 rv1 rv2 hm69
      refine g_iload_n (n := 5) X 3 dX9_personsAt_4 rfl rfl rfl ?_
      refine g_aload_n (n := 6) X 0 dX9_personsAt_5 rfl rfl rfl ?_
      obtain ⟨v70, hv70, rv70⟩ := gRd I (by decide) (gsz hsz (by decide)) rc_1_10.1
      refine gg_9_10 (n := 9) (z := v70) X (by decide) (gsz hsz (by decide)) lay_1 kw_2_126 dX9_personsAt_6 rfl hv70 ?_
      refine g_icmp_ge (n := 12) (tgt := 34) X dX9_personsAt_9 (by decide) (by omega) (by omega) rfl (fun c71 => ?_) (fun c71 => ?_)
      · refine g_iload_n (n := 35) X 2 dX9_personsAt_34 rfl rfl rfl ?_
        exact hq _ _ _ _ dX9_personsAt_35 ⟨rfl, by omega⟩
      · refine g_aload_n (n := 13) X 0 dX9_personsAt_12 rfl rfl rfl ?_
        refine gg_9_1 (n := 16) (z := 5) X (by decide) (gsz hsz (by decide)) lay_1 kw_2_106 dX9_personsAt_13 rfl (rf_1_1 I (gsz hsz (by decide))) (by decide) ?_
        refine g_iload_n (n := 17) X 3 dX9_personsAt_16 rfl rfl rfl ?_
        obtain ⟨o72, ho72, ro72⟩ : ∃ o : Int, o = 31 + v2 ∧ (31 ≤ o ∧ o < 47) := ⟨_, rfl, by omega⟩
        refine g_aald6 (n := 18) (t := o72) X (by decide) (gsz hsz (by decide)) lay_5 (by omega) (by omega) (by decide) (gA5 I hsz (by omega) (by omega) (by omega)) (by omega) dX9_personsAt_17 rfl ?_
        obtain ⟨v73, hv73, rv73⟩ := gRd I (Po0 ro72) (Posz hsz ro72) (rP_5 ro72).1
        refine gg_6_5 (n := 21) (z := v73) X (Po0 ro72) (Posz hsz ro72) (lay2_P ro72) kw_1_195 dX9_personsAt_18 rfl hv73 ?_
        refine g_iload_n (n := 22) X 1 dX9_personsAt_21 rfl rfl rfl ?_
        refine g_icmp_ne (n := 25) (tgt := 28) X dX9_personsAt_22 (by decide) (by omega) (by omega) rfl (fun c74 => ?_) (fun c74 => ?_)
        · refine g_iinc (n := 31) (w := v2 + 1) (L' := [(3, gJ (v2 + 1)), (0, gA n0 1), (1, gJ a), (2, gJ v1)]) X 3 dX9_personsAt_28 rfl rfl (by decide) rfl rfl ?_
          refine g_goto (tgt := 4) X dX9_personsAt_31 (by decide) ?_
          refine G.sub (L' := [(0, gA n0 1), (1, gJ a), (2, gJ v1), (3, gJ (v2 + 1))]) [1, 2, 3, 0] rfl ?_
          exact ih68 v1 (v2 + 1) (by omega) (by omega) (by omega)
        · refine g_iincA (n := 28) X 2 dX9_personsAt_25 rfl (by decide) rfl (fun v75 rv75 L1 hL1 => ?_)
          obtain rfl : L1 = [(2, gJ v75), (0, gA n0 1), (1, gJ a), (3, gJ v2)] := hL1
          refine g_iinc (n := 31) (w := v2 + 1) (L' := [(3, gJ (v2 + 1)), (2, gJ v75), (0, gA n0 1), (1, gJ a)]) X 3 dX9_personsAt_28 rfl rfl (by decide) rfl rfl ?_
          refine g_goto (tgt := 4) X dX9_personsAt_31 (by decide) ?_
          refine G.sub (L' := [(0, gA n0 1), (1, gJ a), (2, gJ v75), (3, gJ (v2 + 1))]) [2, 3, 1, 0] rfl ?_
          exact ih68 v75 (v2 + 1) (by omega) (by omega) (by omega)
  refine G.sub (L' := [(0, gA n0 1), (1, gJ a), (2, gJ 0), (3, gJ 0)]) [2, 3, 1, 0] rfl ?_
  exact j4 _ 0 0 (by omega) (by omega) (Nat.lt_succ_self _)
theorem dX9_boundTo_0 : decode cX9_boundTo 0 = .ok (.iconst 0, 1) := dc_3 (by decide +kernel)
theorem dX9_boundTo_1 : decode cX9_boundTo 1 = .ok (.istore_n 2, 1) := dc_61 (by decide +kernel)
theorem dX9_boundTo_2 : decode cX9_boundTo 2 = .ok (.iconst 0, 1) := dc_3 (by decide +kernel)
theorem dX9_boundTo_3 : decode cX9_boundTo 3 = .ok (.istore_n 3, 1) := dc_62 (by decide +kernel)
theorem dX9_boundTo_4 : decode cX9_boundTo 4 = .ok (.iload_n 3, 1) := dc_29 (by decide +kernel)
theorem dX9_boundTo_5 : decode cX9_boundTo 5 = .ok (.aload_n 0, 1) := dc_42 (by decide +kernel)
theorem dX9_boundTo_6 : decode cX9_boundTo 6 = .ok (.getfield 79, 3) := dc_180 0 79 (by decide +kernel)
theorem dX9_boundTo_9 : decode cX9_boundTo 9 = .ok (.if_icmp .ge 25, 3) := dc_162 0 25 25 (by decide +kernel)
theorem dX9_boundTo_34 : decode cX9_boundTo 34 = .ok (.iload_n 2, 1) := dc_28 (by decide +kernel)
theorem dX9_boundTo_35 : decode cX9_boundTo 35 = .ok (.ireturn, 1) := dc_172 (by decide +kernel)
theorem dX9_boundTo_12 : decode cX9_boundTo 12 = .ok (.aload_n 0, 1) := dc_42 (by decide +kernel)
theorem dX9_boundTo_13 : decode cX9_boundTo 13 = .ok (.getfield 20, 3) := dc_180 0 20 (by decide +kernel)
theorem dX9_boundTo_16 : decode cX9_boundTo 16 = .ok (.iload_n 3, 1) := dc_29 (by decide +kernel)
theorem dX9_boundTo_17 : decode cX9_boundTo 17 = .ok (.aaload, 1) := dc_50 (by decide +kernel)
theorem dX9_boundTo_18 : decode cX9_boundTo 18 = .ok (.getfield 171, 3) := dc_180 0 171 (by decide +kernel)
theorem kw_1_208 : (Jvm.Cond.fieldLink "ParishUnion$Union" (171 : Nat) "ParishUnion$Person" "master" "I") ∈ gT := gT_of (tb_1 _ (List.mem_of_getElem? (i := 208) rfl)) rfl
theorem dX9_boundTo_21 : decode cX9_boundTo 21 = .ok (.iload_n 1, 1) := dc_27 (by decide +kernel)
theorem dX9_boundTo_22 : decode cX9_boundTo 22 = .ok (.if_icmp .ne 6, 3) := dc_160 0 6 6 (by decide +kernel)
theorem dX9_boundTo_28 : decode cX9_boundTo 28 = .ok (.iinc 3 1, 3) := dc_132 3 1 1 (by decide +kernel)
theorem dX9_boundTo_31 : decode cX9_boundTo 31 = .ok (.goto (-27), 3) := dc_167 255 229 (-27) (by decide +kernel)
theorem dX9_boundTo_25 : decode cX9_boundTo 25 = .ok (.iinc 2 1, 3) := dc_132 2 1 1 (by decide +kernel)
abbrev R_X9_boundTo : Room := { frames := 0, cells := 0, slots := 0, locals := 0 }
set_option maxRecDepth 100000 in
set_option maxHeartbeats 4000000 in
theorem s_X9_boundTo {l : Launch} {n0 : Nat} {D : va_G} {cA : Nat → ClassId} {M : gM} (a : Int) (r_a : -2147483648 ≤ a ∧ a ≤ 2147483647) {sz : Nat} (hsz : 206 ≤ sz) (I : gI sz M) (C : gC sz M)   : Met l yX9_boundTo (gWsOf yX9_boundTo cX9_boundTo 4 (Option.some Jvm.ClassFile.FieldType.int)) R_X9_boundTo (gPc n0 D cA [gA n0 1, gJ a] M sz) (gQi n0 D cA sz (fun z M1 => M = M1 ∧ (-2147483648 ≤ z ∧ z ≤ 2147483647))) 0 0 (fun q => n0 ≤ q) := by
  refine gMetI [gA n0 1, gJ a] (by decide) (Nat.le_of_ble_eq_true rfl) ⟨rfl, rfl⟩ ?_
  intro p e s m args below meth cd Q X hq
  have X : gCx p s m args meth cd n0 D cA "ParishUnion$Union" cX9_boundTo 4 := X
  show G p l e R_X9_boundTo s m args below meth cd n0 D cA 4 Q 0 0 M sz 0 [(0, gA n0 1), (1, gJ a)] []
  refine g_iconst (n := 1) X dX9_boundTo_0 rfl ?_
  refine g_istore_n (n := 2) (L' := [(2, gJ 0), (0, gA n0 1), (1, gJ a)]) X dX9_boundTo_1 rfl (by decide) rfl rfl ?_
  refine g_iconst (n := 3) X dX9_boundTo_2 rfl ?_
  refine g_istore_n (n := 4) (L' := [(3, gJ 0), (2, gJ 0), (0, gA n0 1), (1, gJ a)]) X dX9_boundTo_3 rfl (by decide) rfl rfl ?_
  have j4 : ∀ (N67 : Nat) (v1 v2 : Int) , (-2147483648 ≤ v1 ∧ v1 ≤ 2147483647) → (0 ≤ v2 ∧ v2 ≤ 16) → (16 - v2).toNat < N67 → G p l e R_X9_boundTo s m args below meth cd n0 D cA 4 Q 0 0 M sz 4 [(0, gA n0 1), (1, gJ a), (2, gJ v1), (3, gJ v2)] [] := by
    intro N67; induction N67 with
    | zero => intro v1 v2 rv1 rv2 hm69; exfalso; omega
    | succ N67 ih68 =>
      intro v1 v2 rv1 rv2 hm69
      refine g_iload_n (n := 5) X 3 dX9_boundTo_4 rfl rfl rfl ?_
      refine g_aload_n (n := 6) X 0 dX9_boundTo_5 rfl rfl rfl ?_
      obtain ⟨v70, hv70, rv70⟩ := gRd I (by decide) (gsz hsz (by decide)) rc_1_10.1
      refine gg_9_10 (n := 9) (z := v70) X (by decide) (gsz hsz (by decide)) lay_1 kw_2_126 dX9_boundTo_6 rfl hv70 ?_
      refine g_icmp_ge (n := 12) (tgt := 34) X dX9_boundTo_9 (by decide) (by omega) (by omega) rfl (fun c71 => ?_) (fun c71 => ?_)
      · refine g_iload_n (n := 35) X 2 dX9_boundTo_34 rfl rfl rfl ?_
        exact hq _ _ _ _ dX9_boundTo_35 ⟨rfl, by omega⟩
      · refine g_aload_n (n := 13) X 0 dX9_boundTo_12 rfl rfl rfl ?_
        refine gg_9_1 (n := 16) (z := 5) X (by decide) (gsz hsz (by decide)) lay_1 kw_2_106 dX9_boundTo_13 rfl (rf_1_1 I (gsz hsz (by decide))) (by decide) ?_
        refine g_iload_n (n := 17) X 3 dX9_boundTo_16 rfl rfl rfl ?_
        obtain ⟨o72, ho72, ro72⟩ : ∃ o : Int, o = 31 + v2 ∧ (31 ≤ o ∧ o < 47) := ⟨_, rfl, by omega⟩
        refine g_aald6 (n := 18) (t := o72) X (by decide) (gsz hsz (by decide)) lay_5 (by omega) (by omega) (by decide) (gA5 I hsz (by omega) (by omega) (by omega)) (by omega) dX9_boundTo_17 rfl ?_
        obtain ⟨v73, hv73, rv73⟩ := gRd I (Po0 ro72) (Posz hsz ro72) (rP_9 ro72).1
        refine gg_6_9 (n := 21) (z := v73) X (Po0 ro72) (Posz hsz ro72) (lay2_P ro72) kw_1_208 dX9_boundTo_18 rfl hv73 ?_
        refine g_iload_n (n := 22) X 1 dX9_boundTo_21 rfl rfl rfl ?_
        refine g_icmp_ne (n := 25) (tgt := 28) X dX9_boundTo_22 (by decide) (by omega) (by omega) rfl (fun c74 => ?_) (fun c74 => ?_)
        · refine g_iinc (n := 31) (w := v2 + 1) (L' := [(3, gJ (v2 + 1)), (0, gA n0 1), (1, gJ a), (2, gJ v1)]) X 3 dX9_boundTo_28 rfl rfl (by decide) rfl rfl ?_
          refine g_goto (tgt := 4) X dX9_boundTo_31 (by decide) ?_
          refine G.sub (L' := [(0, gA n0 1), (1, gJ a), (2, gJ v1), (3, gJ (v2 + 1))]) [1, 2, 3, 0] rfl ?_
          exact ih68 v1 (v2 + 1) (by omega) (by omega) (by omega)
        · refine g_iincA (n := 28) X 2 dX9_boundTo_25 rfl (by decide) rfl (fun v75 rv75 L1 hL1 => ?_)
          obtain rfl : L1 = [(2, gJ v75), (0, gA n0 1), (1, gJ a), (3, gJ v2)] := hL1
          refine g_iinc (n := 31) (w := v2 + 1) (L' := [(3, gJ (v2 + 1)), (2, gJ v75), (0, gA n0 1), (1, gJ a)]) X 3 dX9_boundTo_28 rfl rfl (by decide) rfl rfl ?_
          refine g_goto (tgt := 4) X dX9_boundTo_31 (by decide) ?_
          refine G.sub (L' := [(0, gA n0 1), (1, gJ a), (2, gJ v75), (3, gJ (v2 + 1))]) [2, 3, 1, 0] rfl ?_
          exact ih68 v75 (v2 + 1) (by omega) (by omega) (by omega)
  refine G.sub (L' := [(0, gA n0 1), (1, gJ a), (2, gJ 0), (3, gJ 0)]) [2, 3, 1, 0] rfl ?_
  exact j4 _ 0 0 (by omega) (by omega) (Nat.lt_succ_self _)
theorem dX9_bedsTaken_0 : decode cX9_bedsTaken 0 = .ok (.iconst 0, 1) := dc_3 (by decide +kernel)
theorem dX9_bedsTaken_1 : decode cX9_bedsTaken 1 = .ok (.istore_n 2, 1) := dc_61 (by decide +kernel)
theorem dX9_bedsTaken_2 : decode cX9_bedsTaken 2 = .ok (.iconst 0, 1) := dc_3 (by decide +kernel)
theorem dX9_bedsTaken_3 : decode cX9_bedsTaken 3 = .ok (.istore_n 3, 1) := dc_62 (by decide +kernel)
theorem dX9_bedsTaken_4 : decode cX9_bedsTaken 4 = .ok (.iload_n 3, 1) := dc_29 (by decide +kernel)
theorem dX9_bedsTaken_5 : decode cX9_bedsTaken 5 = .ok (.aload_n 0, 1) := dc_42 (by decide +kernel)
theorem dX9_bedsTaken_6 : decode cX9_bedsTaken 6 = .ok (.getfield 79, 3) := dc_180 0 79 (by decide +kernel)
theorem dX9_bedsTaken_9 : decode cX9_bedsTaken 9 = .ok (.if_icmp .ge 25, 3) := dc_162 0 25 25 (by decide +kernel)
theorem dX9_bedsTaken_34 : decode cX9_bedsTaken 34 = .ok (.iload_n 2, 1) := dc_28 (by decide +kernel)
theorem dX9_bedsTaken_35 : decode cX9_bedsTaken 35 = .ok (.ireturn, 1) := dc_172 (by decide +kernel)
theorem dX9_bedsTaken_12 : decode cX9_bedsTaken 12 = .ok (.aload_n 0, 1) := dc_42 (by decide +kernel)
theorem dX9_bedsTaken_13 : decode cX9_bedsTaken 13 = .ok (.getfield 20, 3) := dc_180 0 20 (by decide +kernel)
theorem dX9_bedsTaken_16 : decode cX9_bedsTaken 16 = .ok (.iload_n 3, 1) := dc_29 (by decide +kernel)
theorem dX9_bedsTaken_17 : decode cX9_bedsTaken 17 = .ok (.aaload, 1) := dc_50 (by decide +kernel)
theorem dX9_bedsTaken_18 : decode cX9_bedsTaken 18 = .ok (.getfield 174, 3) := dc_180 0 174 (by decide +kernel)
theorem kw_1_205 : (Jvm.Cond.fieldLink "ParishUnion$Union" (174 : Nat) "ParishUnion$Person" "ward" "I") ∈ gT := gT_of (tb_1 _ (List.mem_of_getElem? (i := 205) rfl)) rfl
theorem dX9_bedsTaken_21 : decode cX9_bedsTaken 21 = .ok (.iload_n 1, 1) := dc_27 (by decide +kernel)
theorem dX9_bedsTaken_22 : decode cX9_bedsTaken 22 = .ok (.if_icmp .ne 6, 3) := dc_160 0 6 6 (by decide +kernel)
theorem dX9_bedsTaken_28 : decode cX9_bedsTaken 28 = .ok (.iinc 3 1, 3) := dc_132 3 1 1 (by decide +kernel)
theorem dX9_bedsTaken_31 : decode cX9_bedsTaken 31 = .ok (.goto (-27), 3) := dc_167 255 229 (-27) (by decide +kernel)
theorem dX9_bedsTaken_25 : decode cX9_bedsTaken 25 = .ok (.iinc 2 1, 3) := dc_132 2 1 1 (by decide +kernel)
abbrev R_X9_bedsTaken : Room := { frames := 0, cells := 0, slots := 0, locals := 0 }
set_option maxRecDepth 100000 in
set_option maxHeartbeats 4000000 in
theorem s_X9_bedsTaken {l : Launch} {n0 : Nat} {D : va_G} {cA : Nat → ClassId} {M : gM} (a : Int) (r_a : -2147483648 ≤ a ∧ a ≤ 2147483647) {sz : Nat} (hsz : 206 ≤ sz) (I : gI sz M) (C : gC sz M)   : Met l yX9_bedsTaken (gWsOf yX9_bedsTaken cX9_bedsTaken 4 (Option.some Jvm.ClassFile.FieldType.int)) R_X9_bedsTaken (gPc n0 D cA [gA n0 1, gJ a] M sz) (gQi n0 D cA sz (fun z M1 => M = M1 ∧ (-2147483648 ≤ z ∧ z ≤ 2147483647))) 0 0 (fun q => n0 ≤ q) := by
  refine gMetI [gA n0 1, gJ a] (by decide) (Nat.le_of_ble_eq_true rfl) ⟨rfl, rfl⟩ ?_
  intro p e s m args below meth cd Q X hq
  have X : gCx p s m args meth cd n0 D cA "ParishUnion$Union" cX9_bedsTaken 4 := X
  show G p l e R_X9_bedsTaken s m args below meth cd n0 D cA 4 Q 0 0 M sz 0 [(0, gA n0 1), (1, gJ a)] []
  refine g_iconst (n := 1) X dX9_bedsTaken_0 rfl ?_
  refine g_istore_n (n := 2) (L' := [(2, gJ 0), (0, gA n0 1), (1, gJ a)]) X dX9_bedsTaken_1 rfl (by decide) rfl rfl ?_
  refine g_iconst (n := 3) X dX9_bedsTaken_2 rfl ?_
  refine g_istore_n (n := 4) (L' := [(3, gJ 0), (2, gJ 0), (0, gA n0 1), (1, gJ a)]) X dX9_bedsTaken_3 rfl (by decide) rfl rfl ?_
  have j4 : ∀ (N67 : Nat) (v1 v2 : Int) , (-2147483648 ≤ v1 ∧ v1 ≤ 2147483647) → (0 ≤ v2 ∧ v2 ≤ 16) → (16 - v2).toNat < N67 → G p l e R_X9_bedsTaken s m args below meth cd n0 D cA 4 Q 0 0 M sz 4 [(0, gA n0 1), (1, gJ a), (2, gJ v1), (3, gJ v2)] [] := by
    intro N67; induction N67 with
    | zero => intro v1 v2 rv1 rv2 hm69; exfalso; omega
    | succ N67 ih68 =>
      intro v1 v2 rv1 rv2 hm69
      refine g_iload_n (n := 5) X 3 dX9_bedsTaken_4 rfl rfl rfl ?_
      refine g_aload_n (n := 6) X 0 dX9_bedsTaken_5 rfl rfl rfl ?_
      obtain ⟨v70, hv70, rv70⟩ := gRd I (by decide) (gsz hsz (by decide)) rc_1_10.1
      refine gg_9_10 (n := 9) (z := v70) X (by decide) (gsz hsz (by decide)) lay_1 kw_2_126 dX9_bedsTaken_6 rfl hv70 ?_
      refine g_icmp_ge (n := 12) (tgt := 34) X dX9_bedsTaken_9 (by decide) (by omega) (by omega) rfl (fun c71 => ?_) (fun c71 => ?_)
      · refine g_iload_n (n := 35) X 2 dX9_bedsTaken_34 rfl rfl rfl ?_
        exact hq _ _ _ _ dX9_bedsTaken_35 ⟨rfl, by omega⟩
      · refine g_aload_n (n := 13) X 0 dX9_bedsTaken_12 rfl rfl rfl ?_
        refine gg_9_1 (n := 16) (z := 5) X (by decide) (gsz hsz (by decide)) lay_1 kw_2_106 dX9_bedsTaken_13 rfl (rf_1_1 I (gsz hsz (by decide))) (by decide) ?_
        refine g_iload_n (n := 17) X 3 dX9_bedsTaken_16 rfl rfl rfl ?_
        obtain ⟨o72, ho72, ro72⟩ : ∃ o : Int, o = 31 + v2 ∧ (31 ≤ o ∧ o < 47) := ⟨_, rfl, by omega⟩
        refine g_aald6 (n := 18) (t := o72) X (by decide) (gsz hsz (by decide)) lay_5 (by omega) (by omega) (by decide) (gA5 I hsz (by omega) (by omega) (by omega)) (by omega) dX9_bedsTaken_17 rfl ?_
        obtain ⟨v73, hv73, rv73⟩ := gRd I (Po0 ro72) (Posz hsz ro72) (rP_8 ro72).1
        refine gg_6_8 (n := 21) (z := v73) X (Po0 ro72) (Posz hsz ro72) (lay2_P ro72) kw_1_205 dX9_bedsTaken_18 rfl hv73 ?_
        refine g_iload_n (n := 22) X 1 dX9_bedsTaken_21 rfl rfl rfl ?_
        refine g_icmp_ne (n := 25) (tgt := 28) X dX9_bedsTaken_22 (by decide) (by omega) (by omega) rfl (fun c74 => ?_) (fun c74 => ?_)
        · refine g_iinc (n := 31) (w := v2 + 1) (L' := [(3, gJ (v2 + 1)), (0, gA n0 1), (1, gJ a), (2, gJ v1)]) X 3 dX9_bedsTaken_28 rfl rfl (by decide) rfl rfl ?_
          refine g_goto (tgt := 4) X dX9_bedsTaken_31 (by decide) ?_
          refine G.sub (L' := [(0, gA n0 1), (1, gJ a), (2, gJ v1), (3, gJ (v2 + 1))]) [1, 2, 3, 0] rfl ?_
          exact ih68 v1 (v2 + 1) (by omega) (by omega) (by omega)
        · refine g_iincA (n := 28) X 2 dX9_bedsTaken_25 rfl (by decide) rfl (fun v75 rv75 L1 hL1 => ?_)
          obtain rfl : L1 = [(2, gJ v75), (0, gA n0 1), (1, gJ a), (3, gJ v2)] := hL1
          refine g_iinc (n := 31) (w := v2 + 1) (L' := [(3, gJ (v2 + 1)), (2, gJ v75), (0, gA n0 1), (1, gJ a)]) X 3 dX9_bedsTaken_28 rfl rfl (by decide) rfl rfl ?_
          refine g_goto (tgt := 4) X dX9_bedsTaken_31 (by decide) ?_
          refine G.sub (L' := [(0, gA n0 1), (1, gJ a), (2, gJ v75), (3, gJ (v2 + 1))]) [2, 3, 1, 0] rfl ?_
          exact ih68 v75 (v2 + 1) (by omega) (by omega) (by omega)
  refine G.sub (L' := [(0, gA n0 1), (1, gJ a), (2, gJ 0), (3, gJ 0)]) [2, 3, 1, 0] rfl ?_
  exact j4 _ 0 0 (by omega) (by omega) (Nat.lt_succ_self _)
theorem dX9_newsIn_0 : decode cX9_newsIn 0 = .ok (.aload_n 0, 1) := dc_42 (by decide +kernel)
theorem dX9_newsIn_1 : decode cX9_newsIn 1 = .ok (.getfield 12, 3) := dc_180 0 12 (by decide +kernel)
theorem kw_2_104 : (Jvm.Cond.fieldLink "ParishUnion$Union" (12 : Nat) "ParishUnion$Union" "land" "LParishUnion$Land;") ∈ gT := gT_of (tb_2 _ (List.mem_of_getElem? (i := 104) rfl)) rfl
theorem rf_1_0 {sz : Nat} {M : gM} (I : gI sz M) (h : (1 : Int) < (sz : Int)) : M 1 0 = 2 + 1 := gI.rf I (by decide) h (by decide +kernel)
theorem dX9_newsIn_4 : decode cX9_newsIn 4 = .ok (.iconst 0, 1) := dc_3 (by decide +kernel)
theorem dX9_newsIn_5 : decode cX9_newsIn 5 = .ok (.iload_n 1, 1) := dc_27 (by decide +kernel)
theorem dX9_newsIn_6 : decode cX9_newsIn 6 = .ok (.invokevirtual 177, 3) := dc_182 0 177 (by decide +kernel)
theorem kw_4_175 : (Jvm.Cond.methodLink "ParishUnion$Union" (177 : Nat) ({ cls := "ParishUnion$Land", name := "distance", desc := "(II)I" } : Jvm.MethodName)) ∈ gT := gT_of (tb_4 _ (List.mem_of_getElem? (i := 175) rfl)) rfl
theorem dX9_newsIn_9 : decode cX9_newsIn 9 = .ok (.istore_n 3, 1) := dc_62 (by decide +kernel)
theorem dX9_newsIn_10 : decode cX9_newsIn 10 = .ok (.iload_n 2, 1) := dc_28 (by decide +kernel)
theorem dX9_newsIn_11 : decode cX9_newsIn 11 = .ok (.iload_n 3, 1) := dc_29 (by decide +kernel)
theorem dX9_newsIn_12 : decode cX9_newsIn 12 = .ok (.isub, 1) := dc_100 (by decide +kernel)
theorem dX9_newsIn_13 : decode cX9_newsIn 13 = .ok (.iconst 1, 1) := dc_4 (by decide +kernel)
theorem dX9_newsIn_14 : decode cX9_newsIn 14 = .ok (.isub, 1) := dc_100 (by decide +kernel)
theorem dX9_newsIn_15 : decode cX9_newsIn 15 = .ok (.aload_n 0, 1) := dc_42 (by decide +kernel)
theorem dX9_newsIn_16 : decode cX9_newsIn 16 = .ok (.getfield 110, 3) := dc_180 0 110 (by decide +kernel)
theorem kw_2_138 : (Jvm.Cond.fieldLink "ParishUnion$Union" (110 : Nat) "ParishUnion$Union" "now" "I") ∈ gT := gT_of (tb_2 _ (List.mem_of_getElem? (i := 138) rfl)) rfl
theorem dX9_newsIn_19 : decode cX9_newsIn 19 = .ok (.iconst 1, 1) := dc_4 (by decide +kernel)
theorem dX9_newsIn_20 : decode cX9_newsIn 20 = .ok (.isub, 1) := dc_100 (by decide +kernel)
theorem dX9_newsIn_21 : decode cX9_newsIn 21 = .ok (.invokestatic 180, 3) := dc_184 0 180 (by decide +kernel)
theorem kw_4_176 : (Jvm.Cond.methodLink "ParishUnion$Union" (180 : Nat) ({ cls := "java/lang/Math", name := "min", desc := "(II)I" } : Jvm.MethodName)) ∈ gT := gT_of (tb_4 _ (List.mem_of_getElem? (i := 176) rfl)) rfl
theorem dX9_newsIn_24 : decode cX9_newsIn 24 = .ok (.istore 4, 2) := dc_54 4 (by decide +kernel)
theorem dX9_newsIn_26 : decode cX9_newsIn 26 = .ok (.iload_n 3, 1) := dc_29 (by decide +kernel)
theorem dX9_newsIn_27 : decode cX9_newsIn 27 = .ok (.bipush 99, 2) := dc_16 99 99 (by decide +kernel)
theorem dX9_newsIn_29 : decode cX9_newsIn 29 = .ok (.if_icmp .eq 8, 3) := dc_159 0 8 8 (by decide +kernel)
theorem dX9_newsIn_37 : decode cX9_newsIn 37 = .ok (.iconst 0, 1) := dc_3 (by decide +kernel)
theorem dX9_newsIn_38 : decode cX9_newsIn 38 = .ok (.goto 14, 3) := dc_167 0 14 14 (by decide +kernel)
theorem dX9_newsIn_52 : decode cX9_newsIn 52 = .ok (.ireturn, 1) := dc_172 (by decide +kernel)
theorem dX9_newsIn_32 : decode cX9_newsIn 32 = .ok (.iload 4, 2) := dc_21 4 (by decide +kernel)
theorem dX9_newsIn_34 : decode cX9_newsIn 34 = .ok (.ifCond .ge 7, 3) := dc_156 0 7 7 (by decide +kernel)
theorem dX9_newsIn_41 : decode cX9_newsIn 41 = .ok (.aload_n 0, 1) := dc_42 (by decide +kernel)
theorem dX9_newsIn_42 : decode cX9_newsIn 42 = .ok (.getfield 57, 3) := dc_180 0 57 (by decide +kernel)
theorem kw_2_120 : (Jvm.Cond.fieldLink "ParishUnion$Union" (57 : Nat) "ParishUnion$Union" "past" "LParishUnion$Past;") ∈ gT := gT_of (tb_2 _ (List.mem_of_getElem? (i := 120) rfl)) rfl
theorem rf_1_7 {sz : Nat} {M : gM} (I : gI sz M) (h : (1 : Int) < (sz : Int)) : M 1 7 = 23 + 1 := gI.rf I (by decide) h (by decide +kernel)
theorem dX9_newsIn_45 : decode cX9_newsIn 45 = .ok (.iload 4, 2) := dc_21 4 (by decide +kernel)
theorem dX9_newsIn_47 : decode cX9_newsIn 47 = .ok (.bipush 6, 2) := dc_16 6 6 (by decide +kernel)
theorem dX9_newsIn_49 : decode cX9_newsIn 49 = .ok (.invokevirtual 185, 3) := dc_182 0 185 (by decide +kernel)
theorem kw_4_177 : (Jvm.Cond.methodLink "ParishUnion$Union" (185 : Nat) ({ cls := "ParishUnion$Past", name := "sum", desc := "(II)I" } : Jvm.MethodName)) ∈ gT := gT_of (tb_4 _ (List.mem_of_getElem? (i := 177) rfl)) rfl
abbrev R_X9_newsIn : Room := { frames := 4, cells := 0, slots := 0, locals := 120 }
set_option maxRecDepth 100000 in
set_option maxHeartbeats 4000000 in
theorem s_X9_newsIn {l : Launch} {n0 : Nat} {D : va_G} {cA : Nat → ClassId} {M : gM} (a : Int) (r_a : 0 ≤ a ∧ a ≤ 5) (b : Int) (r_b : 0 ≤ b ∧ b ≤ 300) {sz : Nat} (hsz : 206 ≤ sz) (I : gI sz M) (C : gC sz M)   : Met l yX9_newsIn (gWsOf yX9_newsIn cX9_newsIn 5 (Option.some Jvm.ClassFile.FieldType.int)) R_X9_newsIn (gPc n0 D cA [gA n0 1, gJ a, gJ b] M sz) (gQi n0 D cA sz (fun z M1 => M = M1 ∧ (-2147483648 ≤ z ∧ z ≤ 2147483647))) 0 0 (fun q => n0 ≤ q) := by
  refine gMetI [gA n0 1, gJ a, gJ b] (by decide) (Nat.le_of_ble_eq_true rfl) ⟨rfl, rfl⟩ ?_
  intro p e s m args below meth cd Q X hq
  have X : gCx p s m args meth cd n0 D cA "ParishUnion$Union" cX9_newsIn 5 := X
  show G p l e R_X9_newsIn s m args below meth cd n0 D cA 5 Q 0 0 M sz 0 [(0, gA n0 1), (1, gJ a), (2, gJ b)] []
  refine g_aload_n (n := 1) X 0 dX9_newsIn_0 rfl rfl rfl ?_
  refine gg_9_0 (n := 4) (z := 2) X (by decide) (gsz hsz (by decide)) lay_1 kw_2_104 dX9_newsIn_1 rfl (rf_1_0 I (gsz hsz (by decide))) (by decide) ?_
  refine g_iconst (n := 5) X dX9_newsIn_4 rfl ?_
  refine g_iload_n (n := 6) X 1 dX9_newsIn_5 rfl rfl rfl ?_
  refine g_callVi (n := 9) (As := [gJ 0, gJ a]) (rest := []) (cs1 := 0) (ss1 := 0) X (s_X3_distance 0 (by omega) a (by omega) hsz I C ) okX3_distance kw_4_175 ⟨kw_3_41, kw_3_42⟩ ⟨rfl, rfl⟩ ⟨Nat.le_of_ble_eq_true rfl, Nat.le_of_ble_eq_true rfl⟩ rfl (by decide) (gsz hsz (by decide)) lay_2 rfl rfl (Nat.le_of_ble_eq_true rfl) ⟨Nat.le_of_ble_eq_true rfl, Nat.le_of_ble_eq_true rfl⟩ rfl rfl dX9_newsIn_6 rfl (fun v1 M2 P3 => ?_)
  obtain ⟨rfl, rv1, xv1⟩ := P3
  refine g_istore_n (n := 10) (L' := [(3, gJ v1), (0, gA n0 1), (1, gJ a), (2, gJ b)]) X dX9_newsIn_9 rfl (by decide) rfl rfl ?_
  refine g_iload_n (n := 11) X 3 dX9_newsIn_10 rfl rfl rfl ?_
  refine g_iload_n (n := 12) X 0 dX9_newsIn_11 rfl rfl rfl ?_
  refine g_isub (n := 13) (z := b - v1) X dX9_newsIn_12 rfl rfl ?_
  refine g_iconst (n := 14) X dX9_newsIn_13 rfl ?_
  refine g_isub (n := 15) (z := (b - v1) - 1) X dX9_newsIn_14 rfl rfl ?_
  refine g_aload_n (n := 16) X 1 dX9_newsIn_15 rfl rfl rfl ?_
  obtain ⟨v4, hv4, rv4⟩ := gRd I (by decide) (gsz hsz (by decide)) rc_1_15.1
  refine gg_9_15 (n := 19) (z := v4) X (by decide) (gsz hsz (by decide)) lay_1 kw_2_138 dX9_newsIn_16 rfl hv4 ?_
  refine g_iconst (n := 20) X dX9_newsIn_19 rfl ?_
  refine g_isub (n := 21) (z := v4 - 1) X dX9_newsIn_20 (by omega) rfl ?_
  refine g_mmin (n := 24) X kw_4_176 kw_3_45 kw_1_14 kw_3_46 (by omega) (by omega) (Nat.le_of_ble_eq_true rfl) (Nat.le_of_ble_eq_true rfl) (Nat.le_of_ble_eq_true rfl) (Nat.le_of_ble_eq_true rfl) dX9_newsIn_21 rfl (fun x5 hx5 => ?_)
  have rx5 : -100 ≤ x5 ∧ x5 ≤ 299 := by omega
  refine g_istore (n := 26) (L' := [(4, gJ x5), (3, gJ v1), (0, gA n0 1), (1, gJ a), (2, gJ b)]) X dX9_newsIn_24 (by decide) rfl rfl ?_
  refine g_iload_n (n := 27) X 1 dX9_newsIn_26 rfl rfl rfl ?_
  refine g_bipush (n := 29) X dX9_newsIn_27 (by decide +kernel) rfl ?_
  refine g_icmp_eq (n := 32) (tgt := 37) X dX9_newsIn_29 (by decide) (by omega) (by omega) rfl (fun c6 => ?_) (fun c6 => ?_)
  · refine g_iconst (n := 38) X dX9_newsIn_37 rfl ?_
    refine g_goto (tgt := 52) X dX9_newsIn_38 (by decide) ?_
    exact hq _ _ _ _ dX9_newsIn_52 ⟨rfl, by omega⟩
  · refine g_iload (n := 34) X 0 dX9_newsIn_32 rfl rfl ?_
    refine g_if_ge (n := 37) (tgt := 41) X dX9_newsIn_34 (by decide) (by omega) rfl (fun c7 => ?_) (fun c7 => ?_)
    · refine g_aload_n (n := 42) X 2 dX9_newsIn_41 rfl rfl rfl ?_
      refine gg_9_7 (n := 45) (z := 23) X (by decide) (gsz hsz (by decide)) lay_1 kw_2_120 dX9_newsIn_42 rfl (rf_1_7 I (gsz hsz (by decide))) (by decide) ?_
      refine g_iload (n := 47) X 0 dX9_newsIn_45 rfl rfl ?_
      refine g_bipush (n := 49) X dX9_newsIn_47 (by decide +kernel) rfl ?_
      refine g_callVi (n := 52) (As := [gJ x5, gJ 6]) (rest := []) (cs1 := 0) (ss1 := 0) X (s_X5_sum x5 (by omega) 6 (by omega) hsz I C ) okX5_sum kw_4_177 ⟨kw_4_178, kw_4_179⟩ ⟨rfl, rfl⟩ ⟨Nat.le_of_ble_eq_true rfl, Nat.le_of_ble_eq_true rfl⟩ rfl (by decide) (gsz hsz (by decide)) lay_23 rfl rfl (Nat.le_of_ble_eq_true rfl) ⟨Nat.le_of_ble_eq_true rfl, Nat.le_of_ble_eq_true rfl⟩ rfl rfl dX9_newsIn_49 rfl (fun v8 M9 P10 => ?_)
      obtain ⟨rfl, rv8⟩ := P10
      exact hq _ _ _ _ dX9_newsIn_52 ⟨rfl, by omega⟩
    · refine g_iconst (n := 38) X dX9_newsIn_37 rfl ?_
      refine g_goto (tgt := 52) X dX9_newsIn_38 (by decide) ?_
      exact hq _ _ _ _ dX9_newsIn_52 ⟨rfl, by omega⟩
theorem dX9_costOf_0 : decode cX9_costOf 0 = .ok (.aload_n 0, 1) := dc_42 (by decide +kernel)
theorem dX9_costOf_1 : decode cX9_costOf 1 = .ok (.getfield 57, 3) := dc_180 0 57 (by decide +kernel)
theorem dX9_costOf_4 : decode cX9_costOf 4 = .ok (.iload_n 1, 1) := dc_27 (by decide +kernel)
theorem dX9_costOf_5 : decode cX9_costOf 5 = .ok (.iconst 0, 1) := dc_3 (by decide +kernel)
theorem dX9_costOf_6 : decode cX9_costOf 6 = .ok (.invokevirtual 185, 3) := dc_182 0 185 (by decide +kernel)
theorem dX9_costOf_9 : decode cX9_costOf 9 = .ok (.aload_n 0, 1) := dc_42 (by decide +kernel)
theorem dX9_costOf_10 : decode cX9_costOf 10 = .ok (.getfield 50, 3) := dc_180 0 50 (by decide +kernel)
theorem kw_2_118 : (Jvm.Cond.fieldLink "ParishUnion$Union" (50 : Nat) "ParishUnion$Union" "house" "LParishUnion$House;") ∈ gT := gT_of (tb_2 _ (List.mem_of_getElem? (i := 118) rfl)) rfl
theorem rf_1_6 {sz : Nat} {M : gM} (I : gI sz M) (h : (1 : Int) < (sz : Int)) : M 1 6 = 15 + 1 := gI.rf I (by decide) h (by decide +kernel)
theorem dX9_costOf_13 : decode cX9_costOf 13 = .ok (.getfield 188, 3) := dc_180 0 188 (by decide +kernel)
theorem kw_1_113 : (Jvm.Cond.fieldLink "ParishUnion$Union" (188 : Nat) "ParishUnion$House" "price" "I") ∈ gT := gT_of (tb_1 _ (List.mem_of_getElem? (i := 113) rfl)) rfl
theorem rc_15_9 : gRg 15 9 = (-2147483648, 2147483647) ∧ gCr 15 9 = false ∧ gG 15 9 = 15 := by decide +kernel
theorem dX9_costOf_16 : decode cX9_costOf 16 = .ok (.imul, 1) := dc_104 (by decide +kernel)
theorem dX9_costOf_17 : decode cX9_costOf 17 = .ok (.aload_n 0, 1) := dc_42 (by decide +kernel)
theorem dX9_costOf_18 : decode cX9_costOf 18 = .ok (.getfield 57, 3) := dc_180 0 57 (by decide +kernel)
theorem dX9_costOf_21 : decode cX9_costOf 21 = .ok (.iload_n 1, 1) := dc_27 (by decide +kernel)
theorem dX9_costOf_22 : decode cX9_costOf 22 = .ok (.iconst 1, 1) := dc_4 (by decide +kernel)
theorem dX9_costOf_23 : decode cX9_costOf 23 = .ok (.invokevirtual 185, 3) := dc_182 0 185 (by decide +kernel)
theorem dX9_costOf_26 : decode cX9_costOf 26 = .ok (.iadd, 1) := dc_96 (by decide +kernel)
theorem dX9_costOf_27 : decode cX9_costOf 27 = .ok (.ireturn, 1) := dc_172 (by decide +kernel)
abbrev R_X9_costOf : Room := { frames := 1, cells := 0, slots := 0, locals := 22 }
set_option maxRecDepth 100000 in
set_option maxHeartbeats 4000000 in
theorem s_X9_costOf {l : Launch} {n0 : Nat} {D : va_G} {cA : Nat → ClassId} {M : gM} (a : Int) (r_a : 0 ≤ a ∧ a ≤ 299) {sz : Nat} (hsz : 206 ≤ sz) (I : gI sz M) (C : gC sz M)   : Met l yX9_costOf (gWsOf yX9_costOf cX9_costOf 2 (Option.some Jvm.ClassFile.FieldType.int)) R_X9_costOf (gPc n0 D cA [gA n0 1, gJ a] M sz) (gQi n0 D cA sz (fun z M1 => M = M1 ∧ (-2147483648 ≤ z ∧ z ≤ 2147483647))) 0 0 (fun q => n0 ≤ q) := by
  refine gMetI [gA n0 1, gJ a] (by decide) (Nat.le_of_ble_eq_true rfl) ⟨rfl, rfl⟩ ?_
  intro p e s m args below meth cd Q X hq
  have X : gCx p s m args meth cd n0 D cA "ParishUnion$Union" cX9_costOf 2 := X
  show G p l e R_X9_costOf s m args below meth cd n0 D cA 2 Q 0 0 M sz 0 [(0, gA n0 1), (1, gJ a)] []
  refine g_aload_n (n := 1) X 0 dX9_costOf_0 rfl rfl rfl ?_
  refine gg_9_7 (n := 4) (z := 23) X (by decide) (gsz hsz (by decide)) lay_1 kw_2_120 dX9_costOf_1 rfl (rf_1_7 I (gsz hsz (by decide))) (by decide) ?_
  refine g_iload_n (n := 5) X 1 dX9_costOf_4 rfl rfl rfl ?_
  refine g_iconst (n := 6) X dX9_costOf_5 rfl ?_
  refine g_callVi (n := 9) (As := [gJ a, gJ 0]) (rest := []) (cs1 := 0) (ss1 := 0) X (s_X5_sum a (by omega) 0 (by omega) hsz I C ) okX5_sum kw_4_177 ⟨kw_4_178, kw_4_179⟩ ⟨rfl, rfl⟩ ⟨Nat.le_of_ble_eq_true rfl, Nat.le_of_ble_eq_true rfl⟩ rfl (by decide) (gsz hsz (by decide)) lay_23 rfl rfl (Nat.le_of_ble_eq_true rfl) ⟨Nat.le_of_ble_eq_true rfl, Nat.le_of_ble_eq_true rfl⟩ rfl rfl dX9_costOf_6 rfl (fun v1 M2 P3 => ?_)
  obtain ⟨rfl, rv1⟩ := P3
  refine g_aload_n (n := 10) X 0 dX9_costOf_9 rfl rfl rfl ?_
  refine gg_9_6 (n := 13) (z := 15) X (by decide) (gsz hsz (by decide)) lay_1 kw_2_118 dX9_costOf_10 rfl (rf_1_6 I (gsz hsz (by decide))) (by decide) ?_
  obtain ⟨v4, hv4, rv4⟩ := gRd I (by decide) (gsz hsz (by decide)) rc_15_9.1
  refine gg_2_9 (n := 16) (z := v4) X (by decide) (gsz hsz (by decide)) lay_15 kw_1_113 dX9_costOf_13 rfl hv4 ?_
  refine g_imulA (n := 17) X dX9_costOf_16 rfl (fun v5 rv5 xv5 => ?_)
  clear xv5
  refine g_aload_n (n := 18) X 0 dX9_costOf_17 rfl rfl rfl ?_
  refine gg_9_7 (n := 21) (z := 23) X (by decide) (gsz hsz (by decide)) lay_1 kw_2_120 dX9_costOf_18 rfl (rf_1_7 I (gsz hsz (by decide))) (by decide) ?_
  refine g_iload_n (n := 22) X 1 dX9_costOf_21 rfl rfl rfl ?_
  refine g_iconst (n := 23) X dX9_costOf_22 rfl ?_
  refine g_callVi (n := 26) (As := [gJ a, gJ 1]) (rest := [gJ v5]) (cs1 := 0) (ss1 := 0) X (s_X5_sum a (by omega) 1 (by omega) hsz I C ) okX5_sum kw_4_177 ⟨kw_4_178, kw_4_179⟩ ⟨rfl, rfl⟩ ⟨Nat.le_of_ble_eq_true rfl, Nat.le_of_ble_eq_true rfl⟩ rfl (by decide) (gsz hsz (by decide)) lay_23 rfl rfl (Nat.le_of_ble_eq_true rfl) ⟨Nat.le_of_ble_eq_true rfl, Nat.le_of_ble_eq_true rfl⟩ rfl rfl dX9_costOf_23 rfl (fun v6 M7 P8 => ?_)
  obtain ⟨rfl, rv6⟩ := P8
  refine g_iaddA (n := 27) X dX9_costOf_26 rfl (fun v9 rv9 xv9 => ?_)
  clear xv9
  exact hq _ _ _ _ dX9_costOf_27 ⟨rfl, by omega⟩
