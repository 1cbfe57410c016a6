theorem dX1_bestProof_0 : decode cX1_bestProof 0 = .ok (.aload_n 0, 1) := dc_42 (by decide +kernel)
theorem dX1_bestProof_1 : decode cX1_bestProof 1 = .ok (.getfield 102, 3) := dc_180 0 102 (by decide +kernel)
theorem dX1_bestProof_4 : decode cX1_bestProof 4 = .ok (.invokestatic 112, 3) := dc_184 0 112 (by decide +kernel)
theorem kw_3_185 : (Jvm.Cond.methodLink "ParishUnion$Bench" (112 : Nat) ({ cls := "java/lang/Integer", name := "bitCount", desc := "(I)I" } : Jvm.MethodName)) ∈ gT := gT_of (tb_3 _ (List.mem_of_getElem? (i := 185) rfl)) rfl
theorem kw_3_187 : (Jvm.Cond.code ({ cls := "java/lang/Integer", name := "bitCount", desc := "(I)I" } : Jvm.MethodName) prog_15_method_49_code (1 : Nat) (Option.some Jvm.ClassFile.FieldType.int)) ∈ gT := gT_of (tb_3 _ (List.mem_of_getElem? (i := 187) rfl)) rfl
theorem kw_1_15 : (Jvm.Cond.initialized "java/lang/Integer") ∈ gT := gT_of (tb_1 _ (List.mem_of_getElem? (i := 15) rfl)) rfl
theorem okJ_bit : gQok yJ_bit cJ_bit 1 (Option.some Jvm.ClassFile.FieldType.int) 1 := ⟨kw_3_187, kw_1_15, by decide +kernel, by decide +kernel, by decide +kernel⟩
theorem kw_3_186 : (Jvm.Cond.static ({ cls := "java/lang/Integer", name := "bitCount", desc := "(I)I" } : Jvm.MethodName)) ∈ gT := gT_of (tb_3 _ (List.mem_of_getElem? (i := 186) rfl)) rfl
theorem dX1_bestProof_7 : decode cX1_bestProof 7 = .ok (.iconst 1, 1) := dc_4 (by decide +kernel)
theorem dX1_bestProof_8 : decode cX1_bestProof 8 = .ok (.if_icmp .gt 6, 3) := dc_163 0 6 6 (by decide +kernel)
theorem dX1_bestProof_14 : decode cX1_bestProof 14 = .ok (.bipush (-5), 2) := dc_16 251 (-5) (by decide +kernel)
theorem dX1_bestProof_16 : decode cX1_bestProof 16 = .ok (.istore_n 1, 1) := dc_60 (by decide +kernel)
theorem dX1_bestProof_17 : decode cX1_bestProof 17 = .ok (.bipush 7, 2) := dc_16 7 7 (by decide +kernel)
theorem dX1_bestProof_19 : decode cX1_bestProof 19 = .ok (.istore_n 2, 1) := dc_61 (by decide +kernel)
theorem dX1_bestProof_20 : decode cX1_bestProof 20 = .ok (.iconst 0, 1) := dc_3 (by decide +kernel)
theorem dX1_bestProof_21 : decode cX1_bestProof 21 = .ok (.istore_n 3, 1) := dc_62 (by decide +kernel)
theorem dX1_bestProof_22 : decode cX1_bestProof 22 = .ok (.iload_n 3, 1) := dc_29 (by decide +kernel)
theorem dX1_bestProof_23 : decode cX1_bestProof 23 = .ok (.aload_n 0, 1) := dc_42 (by decide +kernel)
theorem dX1_bestProof_24 : decode cX1_bestProof 24 = .ok (.getfield 42, 3) := dc_180 0 42 (by decide +kernel)
theorem dX1_bestProof_27 : decode cX1_bestProof 27 = .ok (.if_icmp .ge 48, 3) := dc_162 0 48 48 (by decide +kernel)
theorem dX1_bestProof_75 : decode cX1_bestProof 75 = .ok (.iload_n 1, 1) := dc_27 (by decide +kernel)
theorem dX1_bestProof_76 : decode cX1_bestProof 76 = .ok (.ireturn, 1) := dc_172 (by decide +kernel)
theorem dX1_bestProof_30 : decode cX1_bestProof 30 = .ok (.aload_n 0, 1) := dc_42 (by decide +kernel)
theorem dX1_bestProof_31 : decode cX1_bestProof 31 = .ok (.getfield 22, 3) := dc_180 0 22 (by decide +kernel)
theorem dX1_bestProof_34 : decode cX1_bestProof 34 = .ok (.iload_n 3, 1) := dc_29 (by decide +kernel)
theorem dX1_bestProof_35 : decode cX1_bestProof 35 = .ok (.iaload, 1) := dc_46 (by decide +kernel)
theorem dX1_bestProof_36 : decode cX1_bestProof 36 = .ok (.invokestatic 112, 3) := dc_184 0 112 (by decide +kernel)
theorem dX1_bestProof_39 : decode cX1_bestProof 39 = .ok (.aload_n 0, 1) := dc_42 (by decide +kernel)
theorem dX1_bestProof_40 : decode cX1_bestProof 40 = .ok (.getfield 25, 3) := dc_180 0 25 (by decide +kernel)
theorem dX1_bestProof_43 : decode cX1_bestProof 43 = .ok (.iload_n 3, 1) := dc_29 (by decide +kernel)
theorem dX1_bestProof_44 : decode cX1_bestProof 44 = .ok (.iaload, 1) := dc_46 (by decide +kernel)
theorem dX1_bestProof_45 : decode cX1_bestProof 45 = .ok (.invokestatic 112, 3) := dc_184 0 112 (by decide +kernel)
theorem dX1_bestProof_48 : decode cX1_bestProof 48 = .ok (.invokestatic 65, 3) := dc_184 0 65 (by decide +kernel)
theorem dX1_bestProof_51 : decode cX1_bestProof 51 = .ok (.istore 4, 2) := dc_54 4 (by decide +kernel)
theorem dX1_bestProof_53 : decode cX1_bestProof 53 = .ok (.iload 4, 2) := dc_21 4 (by decide +kernel)
theorem dX1_bestProof_55 : decode cX1_bestProof 55 = .ok (.iload_n 2, 1) := dc_28 (by decide +kernel)
theorem dX1_bestProof_56 : decode cX1_bestProof 56 = .ok (.if_icmp .ge 13, 3) := dc_162 0 13 13 (by decide +kernel)
theorem dX1_bestProof_69 : decode cX1_bestProof 69 = .ok (.iinc 3 1, 3) := dc_132 3 1 1 (by decide +kernel)
theorem dX1_bestProof_72 : decode cX1_bestProof 72 = .ok (.goto (-50), 3) := dc_167 255 206 (-50) (by decide +kernel)
theorem dX1_bestProof_59 : decode cX1_bestProof 59 = .ok (.aload_n 0, 1) := dc_42 (by decide +kernel)
theorem dX1_bestProof_60 : decode cX1_bestProof 60 = .ok (.getfield 19, 3) := dc_180 0 19 (by decide +kernel)
theorem dX1_bestProof_63 : decode cX1_bestProof 63 = .ok (.iload_n 3, 1) := dc_29 (by decide +kernel)
theorem dX1_bestProof_64 : decode cX1_bestProof 64 = .ok (.iaload, 1) := dc_46 (by decide +kernel)
theorem dX1_bestProof_65 : decode cX1_bestProof 65 = .ok (.istore_n 1, 1) := dc_60 (by decide +kernel)
theorem dX1_bestProof_66 : decode cX1_bestProof 66 = .ok (.iload 4, 2) := dc_21 4 (by decide +kernel)
theorem dX1_bestProof_68 : decode cX1_bestProof 68 = .ok (.istore_n 2, 1) := dc_61 (by decide +kernel)
theorem dX1_bestProof_11 : decode cX1_bestProof 11 = .ok (.bipush (-5), 2) := dc_16 251 (-5) (by decide +kernel)
theorem dX1_bestProof_13 : decode cX1_bestProof 13 = .ok (.ireturn, 1) := dc_172 (by decide +kernel)
abbrev R_X1_bestProof : Room := { frames := 4, cells := 0, slots := 0, locals := 120 }
set_option maxRecDepth 100000 in
set_option maxHeartbeats 4000000 in
theorem s_X1_bestProof {l : Launch} {n0 : Nat} {D : va_G} {cA : Nat → ClassId} {M : gM}  {sz : Nat} (hsz : 206 ≤ sz) (I : gI sz M) (C : gC sz M)   : Met l yX1_bestProof (gWsOf yX1_bestProof cX1_bestProof 5 (Option.some Jvm.ClassFile.FieldType.int)) R_X1_bestProof (gPc n0 D cA [gA n0 153] M sz) (gQi n0 D cA sz (fun z M1 => M = M1 ∧ (-5 ≤ z ∧ z ≤ 39))) 0 0 (fun q => n0 ≤ q) := by
  refine gMetI [gA n0 153] (by decide) (Nat.le_of_ble_eq_true rfl) ⟨rfl, rfl⟩ ?_
  intro p e s m args below meth cd Q X hq
  have X : gCx p s m args meth cd n0 D cA "ParishUnion$Bench" cX1_bestProof 5 := X
  show G p l e R_X1_bestProof s m args below meth cd n0 D cA 5 Q 0 0 M sz 0 [(0, gA n0 153)] []
  refine g_aload_n (n := 1) X 0 dX1_bestProof_0 rfl rfl rfl ?_
  obtain ⟨v1, hv1, rv1⟩ := gRd I (by decide) (gsz hsz (by decide)) rc_153_7.1
  refine gg_1_7 (n := 4) (z := v1) X (by decide) (gsz hsz (by decide)) lay_153 kw_2_186 dX1_bestProof_1 rfl hv1 ?_
  refine g_callSi (n := 7) (As := [gJ v1]) (rest := []) (cs1 := 0) (ss1 := 0) X (s_J_bit v1 (by omega) hsz I C ) okJ_bit kw_3_185 kw_3_186 ⟨rfl, rfl⟩ ⟨Nat.le_of_ble_eq_true rfl, Nat.le_of_ble_eq_true rfl⟩ rfl rfl (Nat.le_of_ble_eq_true rfl) ⟨Nat.le_of_ble_eq_true rfl, Nat.le_of_ble_eq_true rfl⟩ rfl rfl dX1_bestProof_4 rfl (fun v2 M3 P4 => ?_)
  obtain ⟨rfl, rv2⟩ := P4
  refine g_iconst (n := 8) X dX1_bestProof_7 rfl ?_
  refine g_icmp_gt (n := 11) (tgt := 14) X dX1_bestProof_8 (by decide) (by omega) (by omega) rfl (fun c5 => ?_) (fun c5 => ?_)
  · refine g_bipush (n := 16) X dX1_bestProof_14 (by decide +kernel) rfl ?_
    refine g_istore_n (n := 17) (L' := [(1, gJ (-5)), (0, gA n0 153)]) X dX1_bestProof_16 rfl (by decide) rfl rfl ?_
    refine g_bipush (n := 19) X dX1_bestProof_17 (by decide +kernel) rfl ?_
    refine g_istore_n (n := 20) (L' := [(2, gJ 7), (1, gJ (-5)), (0, gA n0 153)]) X dX1_bestProof_19 rfl (by decide) rfl rfl ?_
    refine g_iconst (n := 21) X dX1_bestProof_20 rfl ?_
    refine g_istore_n (n := 22) (L' := [(3, gJ 0), (2, gJ 7), (1, gJ (-5)), (0, gA n0 153)]) X dX1_bestProof_21 rfl (by decide) rfl rfl ?_
    have j10 : ∀ (N115 : Nat) (v6 v7 v8 : Int) , (-5 ≤ v6 ∧ v6 ≤ 39) → (0 ≤ v7 ∧ v7 ≤ 7) → (0 ≤ v8 ∧ v8 ≤ 10) → (10 - v8).toNat < N115 → G p l e R_X1_bestProof s m args below meth cd n0 D cA 5 Q 0 0 M sz 22 [(0, gA n0 153), (1, gJ v6), (2, gJ v7), (3, gJ v8)] [] := by
      intro N115; induction N115 with
      | zero => intro v6 v7 v8 rv6 rv7 rv8 hm117; exfalso; omega
      | succ N115 ih116 =>
        intro v6 v7 v8 rv6 rv7 rv8 hm117
        refine g_iload_n (n := 23) X 3 dX1_bestProof_22 rfl rfl rfl ?_
        refine g_aload_n (n := 24) X 0 dX1_bestProof_23 rfl rfl rfl ?_
        obtain ⟨v118, hv118, rv118⟩ := gRd I (by decide) (gsz hsz (by decide)) rc_153_5.1
        refine gg_1_5 (n := 27) (z := v118) X (by decide) (gsz hsz (by decide)) lay_153 kw_2_184 dX1_bestProof_24 rfl hv118 ?_
        refine g_icmp_ge (n := 30) (tgt := 75) X dX1_bestProof_27 (by decide) (by omega) (by omega) rfl (fun c119 => ?_) (fun c119 => ?_)
        · refine g_iload_n (n := 76) X 1 dX1_bestProof_75 rfl rfl rfl ?_
          exact hq _ _ _ _ dX1_bestProof_76 ⟨rfl, by omega⟩
        · refine g_aload_n (n := 31) X 0 dX1_bestProof_30 rfl rfl rfl ?_
          refine gg_1_3 (n := 34) (z := 157) X (by decide) (gsz hsz (by decide)) lay_153 kw_2_182 dX1_bestProof_31 rfl (rf_153_3 I (gsz hsz (by decide))) (by decide) ?_
          refine g_iload_n (n := 35) X 3 dX1_bestProof_34 rfl rfl rfl ?_
          obtain ⟨v120, hv120, rv120⟩ := gRd I (by decide) (gsz hsz (by decide)) (ra_157 v8).1
          refine g_iald2 (n := 36) (v := v120) X (by decide) (gsz hsz (by decide)) lay_157 (by omega) (by omega) (by decide) dX1_bestProof_35 rfl hv120 ?_
          refine g_callSi (n := 39) (As := [gJ v120]) (rest := []) (cs1 := 0) (ss1 := 0) X (s_J_bit v120 (by omega) hsz I C ) okJ_bit kw_3_185 kw_3_186 ⟨rfl, rfl⟩ ⟨Nat.le_of_ble_eq_true rfl, Nat.le_of_ble_eq_true rfl⟩ rfl rfl (Nat.le_of_ble_eq_true rfl) ⟨Nat.le_of_ble_eq_true rfl, Nat.le_of_ble_eq_true rfl⟩ rfl rfl dX1_bestProof_36 rfl (fun v121 M122 P123 => ?_)
          obtain ⟨rfl, rv121⟩ := P123
          refine g_aload_n (n := 40) X 0 dX1_bestProof_39 rfl rfl rfl ?_
          refine gg_1_4 (n := 43) (z := 158) X (by decide) (gsz hsz (by decide)) lay_153 kw_2_183 dX1_bestProof_40 rfl (rf_153_4 I (gsz hsz (by decide))) (by decide) ?_
          refine g_iload_n (n := 44) X 3 dX1_bestProof_43 rfl rfl rfl ?_
          obtain ⟨v124, hv124, rv124⟩ := gRd I (by decide) (gsz hsz (by decide)) (ra_158 v8).1
          refine g_iald2 (n := 45) (v := v124) X (by decide) (gsz hsz (by decide)) lay_158 (by omega) (by omega) (by decide) dX1_bestProof_44 rfl hv124 ?_
          refine g_callSi (n := 48) (As := [gJ v124]) (rest := [gJ v121]) (cs1 := 0) (ss1 := 0) X (s_J_bit v124 (by omega) hsz I C ) okJ_bit kw_3_185 kw_3_186 ⟨rfl, rfl⟩ ⟨Nat.le_of_ble_eq_true rfl, Nat.le_of_ble_eq_true rfl⟩ rfl rfl (Nat.le_of_ble_eq_true rfl) ⟨Nat.le_of_ble_eq_true rfl, Nat.le_of_ble_eq_true rfl⟩ rfl rfl dX1_bestProof_45 rfl (fun v125 M126 P127 => ?_)
          obtain ⟨rfl, rv125⟩ := P127
          refine g_mmax (n := 51) X kw_3_152 kw_3_153 kw_1_14 kw_3_154 (by omega) (by omega) (Nat.le_of_ble_eq_true rfl) (Nat.le_of_ble_eq_true rfl) (Nat.le_of_ble_eq_true rfl) (Nat.le_of_ble_eq_true rfl) dX1_bestProof_48 rfl (fun x128 hx128 => ?_)
          have rx128 : 0 ≤ x128 ∧ x128 ≤ 63 := by omega
          refine g_istore (n := 53) (L' := [(4, gJ x128), (0, gA n0 153), (1, gJ v6), (2, gJ v7), (3, gJ v8)]) X dX1_bestProof_51 (by decide) rfl rfl ?_
          refine g_iload (n := 55) X 0 dX1_bestProof_53 rfl rfl ?_
          refine g_iload_n (n := 56) X 3 dX1_bestProof_55 rfl rfl rfl ?_
          refine g_icmp_ge (n := 59) (tgt := 69) X dX1_bestProof_56 (by decide) (by omega) (by omega) rfl (fun c129 => ?_) (fun c129 => ?_)
          · refine g_iinc (n := 72) (w := v8 + 1) (L' := [(3, gJ (v8 + 1)), (4, gJ x128), (0, gA n0 153), (1, gJ v6), (2, gJ v7)]) X 4 dX1_bestProof_69 rfl rfl (by decide) rfl rfl ?_
            refine g_goto (tgt := 22) X dX1_bestProof_72 (by decide) ?_
            refine G.sub (L' := [(0, gA n0 153), (1, gJ v6), (2, gJ v7), (3, gJ (v8 + 1))]) [2, 3, 4, 0] rfl ?_
            exact ih116 v6 v7 (v8 + 1) (by omega) (by omega) (by omega) (by omega)
          · refine g_aload_n (n := 60) X 1 dX1_bestProof_59 rfl rfl rfl ?_
            refine gg_1_2 (n := 63) (z := 156) X (by decide) (gsz hsz (by decide)) lay_153 kw_2_181 dX1_bestProof_60 rfl (rf_153_2 I (gsz hsz (by decide))) (by decide) ?_
            refine g_iload_n (n := 64) X 4 dX1_bestProof_63 rfl rfl rfl ?_
            obtain ⟨v130, hv130, rv130⟩ := gRd I (by decide) (gsz hsz (by decide)) (ra_156 v8).1
            refine g_iald2 (n := 65) (v := v130) X (by decide) (gsz hsz (by decide)) lay_156 (by omega) (by omega) (by decide) dX1_bestProof_64 rfl hv130 ?_
            refine g_istore_n (n := 66) (L' := [(1, gJ v130), (4, gJ x128), (0, gA n0 153), (2, gJ v7), (3, gJ v8)]) X dX1_bestProof_65 rfl (by decide) rfl rfl ?_
            refine g_iload (n := 68) X 1 dX1_bestProof_66 rfl rfl ?_
            refine g_istore_n (n := 69) (L' := [(2, gJ x128), (1, gJ v130), (4, gJ x128), (0, gA n0 153), (3, gJ v8)]) X dX1_bestProof_68 rfl (by decide) rfl rfl ?_
            refine g_iinc (n := 72) (w := v8 + 1) (L' := [(3, gJ (v8 + 1)), (2, gJ x128), (1, gJ v130), (4, gJ x128), (0, gA n0 153)]) X 4 dX1_bestProof_69 rfl rfl (by decide) rfl rfl ?_
            refine g_goto (tgt := 22) X dX1_bestProof_72 (by decide) ?_
            refine G.sub (L' := [(0, gA n0 153), (1, gJ v130), (2, gJ x128), (3, gJ (v8 + 1))]) [4, 2, 1, 0] rfl ?_
            exact ih116 v130 x128 (v8 + 1) (by omega) (by omega) (by omega) (by omega)
    refine G.sub (L' := [(0, gA n0 153), (1, gJ (-5)), (2, gJ 7), (3, gJ 0)]) [3, 2, 1, 0] rfl ?_
    exact j10 _ (-5) 7 0 (by omega) (by omega) (by omega) (Nat.lt_succ_self _)
  · refine g_bipush (n := 13) X dX1_bestProof_11 (by decide +kernel) rfl ?_
    exact hq _ _ _ _ dX1_bestProof_13 ⟨rfl, by omega⟩
theorem dX10_greatestSet_0 : decode cX10_greatestSet 0 = .ok (.iconst 0, 1) := dc_3 (by decide +kernel)
theorem dX10_greatestSet_1 : decode cX10_greatestSet 1 = .ok (.istore_n 2, 1) := dc_61 (by decide +kernel)
theorem dX10_greatestSet_2 : decode cX10_greatestSet 2 = .ok (.iconst 0, 1) := dc_3 (by decide +kernel)
theorem dX10_greatestSet_3 : decode cX10_greatestSet 3 = .ok (.istore_n 3, 1) := dc_62 (by decide +kernel)
theorem dX10_greatestSet_4 : decode cX10_greatestSet 4 = .ok (.iload_n 3, 1) := dc_29 (by decide +kernel)
theorem dX10_greatestSet_5 : decode cX10_greatestSet 5 = .ok (.aload_n 0, 1) := dc_42 (by decide +kernel)
theorem dX10_greatestSet_6 : decode cX10_greatestSet 6 = .ok (.getfield 27, 3) := dc_180 0 27 (by decide +kernel)
theorem dX10_greatestSet_9 : decode cX10_greatestSet 9 = .ok (.if_icmp .ge 20, 3) := dc_162 0 20 20 (by decide +kernel)
theorem dX10_greatestSet_29 : decode cX10_greatestSet 29 = .ok (.iconst 0, 1) := dc_3 (by decide +kernel)
theorem dX10_greatestSet_30 : decode cX10_greatestSet 30 = .ok (.istore_n 3, 1) := dc_62 (by decide +kernel)
theorem dX10_greatestSet_31 : decode cX10_greatestSet 31 = .ok (.iconst 1, 1) := dc_4 (by decide +kernel)
theorem dX10_greatestSet_32 : decode cX10_greatestSet 32 = .ok (.istore 4, 2) := dc_54 4 (by decide +kernel)
theorem dX10_greatestSet_34 : decode cX10_greatestSet 34 = .ok (.iconst 0, 1) := dc_3 (by decide +kernel)
theorem dX10_greatestSet_35 : decode cX10_greatestSet 35 = .ok (.istore 5, 2) := dc_54 5 (by decide +kernel)
theorem dX10_greatestSet_37 : decode cX10_greatestSet 37 = .ok (.iload 5, 2) := dc_21 5 (by decide +kernel)
theorem dX10_greatestSet_39 : decode cX10_greatestSet 39 = .ok (.sipush 256, 3) := dc_17 1 0 256 (by decide +kernel)
theorem dX10_greatestSet_42 : decode cX10_greatestSet 42 = .ok (.if_icmp .ge 49, 3) := dc_162 0 49 49 (by decide +kernel)
theorem dX10_greatestSet_45 : decode cX10_greatestSet 45 = .ok (.iload 5, 2) := dc_21 5 (by decide +kernel)
theorem dX10_greatestSet_47 : decode cX10_greatestSet 47 = .ok (.invokestatic 37, 3) := dc_184 0 37 (by decide +kernel)
theorem kw_5_107 : (Jvm.Cond.methodLink "ParishUnion$Vagrants" (37 : Nat) ({ cls := "java/lang/Integer", name := "bitCount", desc := "(I)I" } : Jvm.MethodName)) ∈ gT := gT_of (tb_5 _ (List.mem_of_getElem? (i := 107) rfl)) rfl
theorem dX10_greatestSet_50 : decode cX10_greatestSet 50 = .ok (.istore 6, 2) := dc_54 6 (by decide +kernel)
theorem dX10_greatestSet_52 : decode cX10_greatestSet 52 = .ok (.iload 5, 2) := dc_21 5 (by decide +kernel)
theorem dX10_greatestSet_54 : decode cX10_greatestSet 54 = .ok (.iload_n 2, 1) := dc_28 (by decide +kernel)
theorem dX10_greatestSet_55 : decode cX10_greatestSet 55 = .ok (.iconst (-1), 1) := dc_2 (by decide +kernel)
theorem dX10_greatestSet_56 : decode cX10_greatestSet 56 = .ok (.ixor, 1) := dc_130 (by decide +kernel)
theorem dX10_greatestSet_57 : decode cX10_greatestSet 57 = .ok (.iand, 1) := dc_126 (by decide +kernel)
theorem dX10_greatestSet_58 : decode cX10_greatestSet 58 = .ok (.ifCond .ne 27, 3) := dc_154 0 27 27 (by decide +kernel)
theorem dX10_greatestSet_85 : decode cX10_greatestSet 85 = .ok (.iinc 5 1, 3) := dc_132 5 1 1 (by decide +kernel)
theorem dX10_greatestSet_88 : decode cX10_greatestSet 88 = .ok (.goto (-51), 3) := dc_167 255 205 (-51) (by decide +kernel)
theorem dX10_greatestSet_61 : decode cX10_greatestSet 61 = .ok (.iload 6, 2) := dc_21 6 (by decide +kernel)
theorem dX10_greatestSet_63 : decode cX10_greatestSet 63 = .ok (.iload 4, 2) := dc_21 4 (by decide +kernel)
theorem dX10_greatestSet_65 : decode cX10_greatestSet 65 = .ok (.if_icmp .le 20, 3) := dc_164 0 20 20 (by decide +kernel)
theorem dX10_greatestSet_68 : decode cX10_greatestSet 68 = .ok (.aload_n 0, 1) := dc_42 (by decide +kernel)
theorem dX10_greatestSet_69 : decode cX10_greatestSet 69 = .ok (.iload 5, 2) := dc_21 5 (by decide +kernel)
theorem dX10_greatestSet_71 : decode cX10_greatestSet 71 = .ok (.aload_n 1, 1) := dc_43 (by decide +kernel)
theorem dX10_greatestSet_72 : decode cX10_greatestSet 72 = .ok (.invokevirtual 43, 3) := dc_182 0 43 (by decide +kernel)
theorem kw_5_108 : (Jvm.Cond.methodLink "ParishUnion$Vagrants" (43 : Nat) ({ cls := "ParishUnion$Vagrants", name := "mayBeOne", desc := "(ILParishUnion$Land;)Z" } : Jvm.MethodName)) ∈ gT := gT_of (tb_5 _ (List.mem_of_getElem? (i := 108) rfl)) rfl
theorem dX10_greatestSet_75 : decode cX10_greatestSet 75 = .ok (.ifCond .eq 10, 3) := dc_153 0 10 10 (by decide +kernel)
theorem dX10_greatestSet_78 : decode cX10_greatestSet 78 = .ok (.iload 5, 2) := dc_21 5 (by decide +kernel)
theorem dX10_greatestSet_80 : decode cX10_greatestSet 80 = .ok (.istore_n 3, 1) := dc_62 (by decide +kernel)
theorem dX10_greatestSet_81 : decode cX10_greatestSet 81 = .ok (.iload 6, 2) := dc_21 6 (by decide +kernel)
theorem dX10_greatestSet_83 : decode cX10_greatestSet 83 = .ok (.istore 4, 2) := dc_54 4 (by decide +kernel)
theorem dX10_greatestSet_91 : decode cX10_greatestSet 91 = .ok (.iload_n 3, 1) := dc_29 (by decide +kernel)
theorem dX10_greatestSet_92 : decode cX10_greatestSet 92 = .ok (.ireturn, 1) := dc_172 (by decide +kernel)
theorem dX10_greatestSet_12 : decode cX10_greatestSet 12 = .ok (.iload_n 2, 1) := dc_28 (by decide +kernel)
theorem dX10_greatestSet_13 : decode cX10_greatestSet 13 = .ok (.iconst 1, 1) := dc_4 (by decide +kernel)
theorem dX10_greatestSet_14 : decode cX10_greatestSet 14 = .ok (.aload_n 0, 1) := dc_42 (by decide +kernel)
theorem dX10_greatestSet_15 : decode cX10_greatestSet 15 = .ok (.getfield 9, 3) := dc_180 0 9 (by decide +kernel)
theorem dX10_greatestSet_18 : decode cX10_greatestSet 18 = .ok (.iload_n 3, 1) := dc_29 (by decide +kernel)
theorem dX10_greatestSet_19 : decode cX10_greatestSet 19 = .ok (.iaload, 1) := dc_46 (by decide +kernel)
theorem dX10_greatestSet_20 : decode cX10_greatestSet 20 = .ok (.ishl, 1) := dc_120 (by decide +kernel)
theorem dX10_greatestSet_21 : decode cX10_greatestSet 21 = .ok (.ior, 1) := dc_128 (by decide +kernel)
theorem dX10_greatestSet_22 : decode cX10_greatestSet 22 = .ok (.istore_n 2, 1) := dc_61 (by decide +kernel)
theorem dX10_greatestSet_23 : decode cX10_greatestSet 23 = .ok (.iinc 3 1, 3) := dc_132 3 1 1 (by decide +kernel)
theorem dX10_greatestSet_26 : decode cX10_greatestSet 26 = .ok (.goto (-22), 3) := dc_167 255 234 (-22) (by decide +kernel)
abbrev R_X10_greatestSet : Room := { frames := 2, cells := 0, slots := 0, locals := 47 }
set_option maxRecDepth 100000 in
set_option maxHeartbeats 4000000 in
theorem s_X10_greatestSet {l : Launch} {n0 : Nat} {D : va_G} {cA : Nat → ClassId} {M : gM}  {sz : Nat} (hsz : 206 ≤ sz) (I : gI sz M) (C : gC sz M)   : Met l yX10_greatestSet (gWsOf yX10_greatestSet cX10_greatestSet 7 (Option.some Jvm.ClassFile.FieldType.int)) R_X10_greatestSet (gPc n0 D cA [gA n0 26, gA n0 2] M sz) (gQi n0 D cA sz (fun z M1 => M = M1 ∧ (0 ≤ z ∧ z ≤ 255))) 0 0 (fun q => n0 ≤ q) := by
  refine gMetI [gA n0 26, gA n0 2] (by decide) (Nat.le_of_ble_eq_true rfl) ⟨rfl, rfl⟩ ?_
  intro p e s m args below meth cd Q X hq
  have X : gCx p s m args meth cd n0 D cA "ParishUnion$Vagrants" cX10_greatestSet 7 := X
  show G p l e R_X10_greatestSet s m args below meth cd n0 D cA 7 Q 0 0 M sz 0 [(0, gA n0 26), (1, gA n0 2)] []
  refine g_iconst (n := 1) X dX10_greatestSet_0 rfl ?_
  refine g_istore_n (n := 2) (L' := [(2, gJ 0), (0, gA n0 26), (1, gA n0 2)]) X dX10_greatestSet_1 rfl (by decide) rfl rfl ?_
  refine g_iconst (n := 3) X dX10_greatestSet_2 rfl ?_
  refine g_istore_n (n := 4) (L' := [(3, gJ 0), (2, gJ 0), (0, gA n0 26), (1, gA n0 2)]) X dX10_greatestSet_3 rfl (by decide) rfl rfl ?_
  have j4 : ∀ (N1104 : Nat) (v1 v2 : Int) , (-2147483648 ≤ v1 ∧ v1 ≤ 2147483647) → (0 ≤ v2 ∧ v2 ≤ 40) → (40 - v2).toNat < N1104 → G p l e R_X10_greatestSet s m args below meth cd n0 D cA 7 Q 0 0 M sz 4 [(0, gA n0 26), (1, gA n0 2), (2, gJ v1), (3, gJ v2)] [] := by
    intro N1104; induction N1104 with
    | zero => intro v1 v2 rv1 rv2 hm1106; exfalso; omega
    | succ N1104 ih1105 =>
      intro v1 v2 rv1 rv2 hm1106
      refine g_iload_n (n := 5) X 3 dX10_greatestSet_4 rfl rfl rfl ?_
      refine g_aload_n (n := 6) X 0 dX10_greatestSet_5 rfl rfl rfl ?_
      obtain ⟨v1107, hv1107, rv1107⟩ := gRd I (by decide) (gsz hsz (by decide)) rc_26_3.1
      refine gg_10_3 (n := 9) (z := v1107) X (by decide) (gsz hsz (by decide)) lay_26 kw_1_159 dX10_greatestSet_6 rfl hv1107 ?_
      refine g_icmp_ge (n := 12) (tgt := 29) X dX10_greatestSet_9 (by decide) (by omega) (by omega) rfl (fun c1108 => ?_) (fun c1108 => ?_)
      · refine g_iconst (n := 30) X dX10_greatestSet_29 rfl ?_
        refine g_istore_n (n := 31) (L' := [(3, gJ 0), (0, gA n0 26), (1, gA n0 2), (2, gJ v1)]) X dX10_greatestSet_30 rfl (by decide) rfl rfl ?_
        refine g_iconst (n := 32) X dX10_greatestSet_31 rfl ?_
        refine g_istore (n := 34) (L' := [(4, gJ 1), (3, gJ 0), (0, gA n0 26), (1, gA n0 2), (2, gJ v1)]) X dX10_greatestSet_32 (by decide) rfl rfl ?_
        refine g_iconst (n := 35) X dX10_greatestSet_34 rfl ?_
        refine g_istore (n := 37) (L' := [(5, gJ 0), (4, gJ 1), (3, gJ 0), (0, gA n0 26), (1, gA n0 2), (2, gJ v1)]) X dX10_greatestSet_35 (by decide) rfl rfl ?_
        have j1113 : ∀ (N1246 : Nat) (v1109 v1110 v1111 : Int) , (0 ≤ v1109 ∧ v1109 ≤ 255) → (1 ≤ v1110 ∧ v1110 ≤ 63) → (0 ≤ v1111 ∧ v1111 ≤ 256) → (256 - v1111).toNat < N1246 → G p l e R_X10_greatestSet s m args below meth cd n0 D cA 7 Q 0 0 M sz 37 [(0, gA n0 26), (1, gA n0 2), (2, gJ v1), (3, gJ v1109), (4, gJ v1110), (5, gJ v1111)] [] := by
          intro N1246; induction N1246 with
          | zero => intro v1109 v1110 v1111 rv1109 rv1110 rv1111 hm1248; exfalso; omega
          | succ N1246 ih1247 =>
            intro v1109 v1110 v1111 rv1109 rv1110 rv1111 hm1248
            refine g_iload (n := 39) X 5 dX10_greatestSet_37 rfl rfl ?_
            refine g_sipush (n := 42) X dX10_greatestSet_39 (by decide +kernel) rfl ?_
            refine g_icmp_ge (n := 45) (tgt := 91) X dX10_greatestSet_42 (by decide) (by omega) (by omega) rfl (fun c1249 => ?_) (fun c1249 => ?_)
            · refine g_iload_n (n := 92) X 3 dX10_greatestSet_91 rfl rfl rfl ?_
              exact hq _ _ _ _ dX10_greatestSet_92 ⟨rfl, by omega⟩
            · refine g_iload (n := 47) X 5 dX10_greatestSet_45 rfl rfl ?_
              refine g_callSi (n := 50) (As := [gJ v1111]) (rest := []) (cs1 := 0) (ss1 := 0) X (s_J_bit v1111 (by omega) hsz I C ) okJ_bit kw_5_107 kw_3_186 ⟨rfl, rfl⟩ ⟨Nat.le_of_ble_eq_true rfl, Nat.le_of_ble_eq_true rfl⟩ rfl rfl (Nat.le_of_ble_eq_true rfl) ⟨Nat.le_of_ble_eq_true rfl, Nat.le_of_ble_eq_true rfl⟩ rfl rfl dX10_greatestSet_47 rfl (fun v1250 M1251 P1252 => ?_)
              obtain ⟨rfl, rv1250⟩ := P1252
              refine g_istore (n := 52) (L' := [(6, gJ v1250), (0, gA n0 26), (1, gA n0 2), (2, gJ v1), (3, gJ v1109), (4, gJ v1110), (5, gJ v1111)]) X dX10_greatestSet_50 (by decide) rfl rfl ?_
              refine g_iload (n := 54) X 6 dX10_greatestSet_52 rfl rfl ?_
              refine g_iload_n (n := 55) X 3 dX10_greatestSet_54 rfl rfl rfl ?_
              refine g_iconst (n := 56) X dX10_greatestSet_55 rfl ?_
              refine g_ixorA (n := 57) X dX10_greatestSet_56 rfl (fun v1253 rv1253 xv1253 => ?_)
              clear xv1253
              refine g_iandA (n := 58) X dX10_greatestSet_57 rfl (fun v1254 rv1254 xv1254 => ?_)
              clear xv1254
              refine g_if_ne (n := 61) (tgt := 85) X dX10_greatestSet_58 (by decide) (by omega) rfl (fun c1255 => ?_) (fun c1255 => ?_)
              · refine g_iinc (n := 88) (w := v1111 + 1) (L' := [(5, gJ (v1111 + 1)), (6, gJ v1250), (0, gA n0 26), (1, gA n0 2), (2, gJ v1), (3, gJ v1109), (4, gJ v1110)]) X 6 dX10_greatestSet_85 rfl rfl (by decide) rfl rfl ?_
                refine g_goto (tgt := 37) X dX10_greatestSet_88 (by decide) ?_
                refine G.sub (L' := [(0, gA n0 26), (1, gA n0 2), (2, gJ v1), (3, gJ v1109), (4, gJ v1110), (5, gJ (v1111 + 1))]) [2, 3, 4, 5, 6, 0] rfl ?_
                exact ih1247 v1109 v1110 (v1111 + 1) (by omega) (by omega) (by omega) (by omega)
              · refine g_iload (n := 63) X 0 dX10_greatestSet_61 rfl rfl ?_
                refine g_iload (n := 65) X 5 dX10_greatestSet_63 rfl rfl ?_
                refine g_icmp_le (n := 68) (tgt := 85) X dX10_greatestSet_65 (by decide) (by omega) (by omega) rfl (fun c1256 => ?_) (fun c1256 => ?_)
                · refine g_iinc (n := 88) (w := v1111 + 1) (L' := [(5, gJ (v1111 + 1)), (6, gJ v1250), (0, gA n0 26), (1, gA n0 2), (2, gJ v1), (3, gJ v1109), (4, gJ v1110)]) X 6 dX10_greatestSet_85 rfl rfl (by decide) rfl rfl ?_
                  refine g_goto (tgt := 37) X dX10_greatestSet_88 (by decide) ?_
                  refine G.sub (L' := [(0, gA n0 26), (1, gA n0 2), (2, gJ v1), (3, gJ v1109), (4, gJ v1110), (5, gJ (v1111 + 1))]) [2, 3, 4, 5, 6, 0] rfl ?_
                  exact ih1247 v1109 v1110 (v1111 + 1) (by omega) (by omega) (by omega) (by omega)
                · refine g_aload_n (n := 69) X 1 dX10_greatestSet_68 rfl rfl rfl ?_
                  refine g_iload (n := 71) X 6 dX10_greatestSet_69 rfl rfl ?_
                  refine g_aload_n (n := 72) X 2 dX10_greatestSet_71 rfl rfl rfl ?_
                  refine g_callVi (n := 75) (As := [gJ v1111, gA n0 2]) (rest := []) (cs1 := 0) (ss1 := 0) X (s_X10_mayBeOne v1111 (by omega) hsz I C ) okX10_mayBeOne kw_5_108 ⟨kw_5_95, kw_5_96⟩ ⟨rfl, rfl⟩ ⟨Nat.le_of_ble_eq_true rfl, Nat.le_of_ble_eq_true rfl⟩ rfl (by decide) (gsz hsz (by decide)) lay_26 rfl rfl (Nat.le_of_ble_eq_true rfl) ⟨Nat.le_of_ble_eq_true rfl, Nat.le_of_ble_eq_true rfl⟩ rfl rfl dX10_greatestSet_72 rfl (fun v1257 M1258 P1259 => ?_)
                  obtain ⟨rfl, rv1257⟩ := P1259
                  refine g_if_eq (n := 78) (tgt := 85) X dX10_greatestSet_75 (by decide) (by omega) rfl (fun c1260 => ?_) (fun c1260 => ?_)
                  · refine g_iinc (n := 88) (w := v1111 + 1) (L' := [(5, gJ (v1111 + 1)), (6, gJ v1250), (0, gA n0 26), (1, gA n0 2), (2, gJ v1), (3, gJ v1109), (4, gJ v1110)]) X 6 dX10_greatestSet_85 rfl rfl (by decide) rfl rfl ?_
                    refine g_goto (tgt := 37) X dX10_greatestSet_88 (by decide) ?_
                    refine G.sub (L' := [(0, gA n0 26), (1, gA n0 2), (2, gJ v1), (3, gJ v1109), (4, gJ v1110), (5, gJ (v1111 + 1))]) [2, 3, 4, 5, 6, 0] rfl ?_
                    exact ih1247 v1109 v1110 (v1111 + 1) (by omega) (by omega) (by omega) (by omega)
                  · refine g_iload (n := 80) X 6 dX10_greatestSet_78 rfl rfl ?_
                    refine g_istore_n (n := 81) (L' := [(3, gJ v1111), (6, gJ v1250), (0, gA n0 26), (1, gA n0 2), (2, gJ v1), (4, gJ v1110), (5, gJ v1111)]) X dX10_greatestSet_80 rfl (by decide) rfl rfl ?_
                    refine g_iload (n := 83) X 1 dX10_greatestSet_81 rfl rfl ?_
                    refine g_istore (n := 85) (L' := [(4, gJ v1250), (3, gJ v1111), (6, gJ v1250), (0, gA n0 26), (1, gA n0 2), (2, gJ v1), (5, gJ v1111)]) X dX10_greatestSet_83 (by decide) rfl rfl ?_
                    refine g_iinc (n := 88) (w := v1111 + 1) (L' := [(5, gJ (v1111 + 1)), (4, gJ v1250), (3, gJ v1111), (6, gJ v1250), (0, gA n0 26), (1, gA n0 2), (2, gJ v1)]) X 6 dX10_greatestSet_85 rfl rfl (by decide) rfl rfl ?_
                    refine g_goto (tgt := 37) X dX10_greatestSet_88 (by decide) ?_
                    refine G.sub (L' := [(0, gA n0 26), (1, gA n0 2), (2, gJ v1), (3, gJ v1111), (4, gJ v1250), (5, gJ (v1111 + 1))]) [4, 5, 6, 2, 1, 0] rfl ?_
                    exact ih1247 v1111 v1250 (v1111 + 1) (by omega) (by omega) (by omega) (by omega)
        refine G.sub (L' := [(0, gA n0 26), (1, gA n0 2), (2, gJ v1), (3, gJ 0), (4, gJ 1), (5, gJ 0)]) [3, 4, 5, 2, 1, 0] rfl ?_
        exact j1113 _ 0 1 0 (by omega) (by omega) (by omega) (Nat.lt_succ_self _)
      · refine g_iload_n (n := 13) X 2 dX10_greatestSet_12 rfl rfl rfl ?_
        refine g_iconst (n := 14) X dX10_greatestSet_13 rfl ?_
        refine g_aload_n (n := 15) X 0 dX10_greatestSet_14 rfl rfl rfl ?_
        refine gg_10_0 (n := 18) (z := 27) X (by decide) (gsz hsz (by decide)) lay_26 kw_1_156 dX10_greatestSet_15 rfl (rf_26_0 I (gsz hsz (by decide))) (by decide) ?_
        refine g_iload_n (n := 19) X 3 dX10_greatestSet_18 rfl rfl rfl ?_
        obtain ⟨v1261, hv1261, rv1261⟩ := gRd I (by decide) (gsz hsz (by decide)) (ra_27 v2).1
        refine g_iald2 (n := 20) (v := v1261) X (by decide) (gsz hsz (by decide)) lay_27 (by omega) (by omega) (by decide) dX10_greatestSet_19 rfl hv1261 ?_
        refine g_ishlA (n := 21) X dX10_greatestSet_20 rfl (fun v1262 rv1262 xv1262 => ?_)
        clear xv1262
        refine g_iorA (n := 22) X dX10_greatestSet_21 rfl (fun v1263 rv1263 xv1263 => ?_)
        clear xv1263
        refine g_istore_n (n := 23) (L' := [(2, gJ v1263), (0, gA n0 26), (1, gA n0 2), (3, gJ v2)]) X dX10_greatestSet_22 rfl (by decide) rfl rfl ?_
        refine g_iinc (n := 26) (w := v2 + 1) (L' := [(3, gJ (v2 + 1)), (2, gJ v1263), (0, gA n0 26), (1, gA n0 2)]) X 3 dX10_greatestSet_23 rfl rfl (by decide) rfl rfl ?_
        refine g_goto (tgt := 4) X dX10_greatestSet_26 (by decide) ?_
        refine G.sub (L' := [(0, gA n0 26), (1, gA n0 2), (2, gJ v1263), (3, gJ (v2 + 1))]) [2, 3, 1, 0] rfl ?_
        exact ih1105 v1263 (v2 + 1) (by omega) (by omega) (by omega)
  refine G.sub (L' := [(0, gA n0 26), (1, gA n0 2), (2, gJ 0), (3, gJ 0)]) [2, 3, 1, 0] rfl ?_
  exact j4 _ 0 0 (by omega) (by omega) (Nat.lt_succ_self _)
theorem dX11_readTape_0 : decode cX11_readTape 0 = .ok (.aload_n 0, 1) := dc_42 (by decide +kernel)
theorem dX11_readTape_1 : decode cX11_readTape 1 = .ok (.getfield 10, 3) := dc_180 0 10 (by decide +kernel)
theorem dX11_readTape_4 : decode cX11_readTape 4 = .ok (.getfield 434, 3) := dc_180 1 178 (by decide +kernel)
theorem kw_2_113 : (Jvm.Cond.fieldLink "ParishUnion" (434 : Nat) "ParishUnion$Union" "acts" "[LParishUnion$Act;") ∈ gT := gT_of (tb_2 _ (List.mem_of_getElem? (i := 113) rfl)) rfl
theorem dX11_readTape_7 : decode cX11_readTape 7 = .ok (.aload_n 0, 1) := dc_42 (by decide +kernel)
theorem dX11_readTape_8 : decode cX11_readTape 8 = .ok (.getfield 10, 3) := dc_180 0 10 (by decide +kernel)
theorem dX11_readTape_11 : decode cX11_readTape 11 = .ok (.getfield 219, 3) := dc_180 0 219 (by decide +kernel)
theorem dX11_readTape_14 : decode cX11_readTape 14 = .ok (.aaload, 1) := dc_50 (by decide +kernel)
theorem dX11_readTape_15 : decode cX11_readTape 15 = .ok (.astore_n 2, 1) := dc_77 (by decide +kernel)
theorem dX11_readTape_16 : decode cX11_readTape 16 = .ok (.aload_n 2, 1) := dc_44 (by decide +kernel)
theorem dX11_readTape_17 : decode cX11_readTape 17 = .ok (.aload_n 0, 1) := dc_42 (by decide +kernel)
theorem dX11_readTape_18 : decode cX11_readTape 18 = .ok (.getfield 10, 3) := dc_180 0 10 (by decide +kernel)
theorem dX11_readTape_21 : decode cX11_readTape 21 = .ok (.getfield 215, 3) := dc_180 0 215 (by decide +kernel)
theorem dX11_readTape_24 : decode cX11_readTape 24 = .ok (.aload_n 0, 1) := dc_42 (by decide +kernel)
theorem dX11_readTape_25 : decode cX11_readTape 25 = .ok (.getfield 10, 3) := dc_180 0 10 (by decide +kernel)
theorem dX11_readTape_28 : decode cX11_readTape 28 = .ok (.getfield 212, 3) := dc_180 0 212 (by decide +kernel)
theorem dX11_readTape_31 : decode cX11_readTape 31 = .ok (.iload_n 1, 1) := dc_27 (by decide +kernel)
theorem dX11_readTape_32 : decode cX11_readTape 32 = .ok (.invokevirtual 438, 3) := dc_182 1 182 (by decide +kernel)
theorem kw_3_203 : (Jvm.Cond.methodLink "ParishUnion" (438 : Nat) ({ cls := "ParishUnion$Act", name := "begin", desc := "([BII)V" } : Jvm.MethodName)) ∈ gT := gT_of (tb_3 _ (List.mem_of_getElem? (i := 203) rfl)) rfl
theorem kw_3_206 : (Jvm.Cond.code ({ cls := "ParishUnion$Act", name := "begin", desc := "([BII)V" } : Jvm.MethodName) prog_2_method_2_code (5 : Nat) (Option.none : Option Jvm.ClassFile.FieldType)) ∈ gT := gT_of (tb_3 _ (List.mem_of_getElem? (i := 206) rfl)) rfl
theorem okX0_begin : gQok yX0_begin cX0_begin 5 (Option.none : Option Jvm.ClassFile.FieldType) 3 := ⟨kw_3_206, kw_1_10, by decide +kernel, by decide +kernel, by decide +kernel⟩
theorem kw_3_204 : (Jvm.Cond.instanceMethod ({ cls := "ParishUnion$Act", name := "begin", desc := "([BII)V" } : Jvm.MethodName)) ∈ gT := gT_of (tb_3 _ (List.mem_of_getElem? (i := 204) rfl)) rfl
theorem kw_3_205 : (Jvm.Cond.selects "ParishUnion$Act" ({ cls := "ParishUnion$Act", name := "begin", desc := "([BII)V" } : Jvm.MethodName) ({ cls := "ParishUnion$Act", name := "begin", desc := "([BII)V" } : Jvm.MethodName)) ∈ gT := gT_of (tb_3 _ (List.mem_of_getElem? (i := 205) rfl)) rfl
theorem dX11_readTape_35 : decode cX11_readTape 35 = .ok (.aload_n 0, 1) := dc_42 (by decide +kernel)
theorem dX11_readTape_36 : decode cX11_readTape 36 = .ok (.getfield 10, 3) := dc_180 0 10 (by decide +kernel)
theorem dX11_readTape_39 : decode cX11_readTape 39 = .ok (.iconst 0, 1) := dc_3 (by decide +kernel)
theorem dX11_readTape_40 : decode cX11_readTape 40 = .ok (.putfield 212, 3) := dc_181 0 212 (by decide +kernel)
theorem dX11_readTape_43 : decode cX11_readTape 43 = .ok (.aload_n 0, 1) := dc_42 (by decide +kernel)
theorem dX11_readTape_44 : decode cX11_readTape 44 = .ok (.getfield 26, 3) := dc_180 0 26 (by decide +kernel)
theorem kw_2_233 : (Jvm.Cond.fieldLink "ParishUnion" (26 : Nat) "ParishUnion" "reader" "LParishUnion$Reader;") ∈ gT := gT_of (tb_2 _ (List.mem_of_getElem? (i := 233) rfl)) rfl
theorem rf_0_2 {sz : Nat} {M : gM} (I : gI sz M) (h : (0 : Int) < (sz : Int)) : M 0 2 = 159 + 1 := gI.rf I (by decide) h (by decide +kernel)
theorem dX11_readTape_47 : decode cX11_readTape 47 = .ok (.aload_n 2, 1) := dc_44 (by decide +kernel)
theorem dX11_readTape_48 : decode cX11_readTape 48 = .ok (.invokevirtual 443, 3) := dc_182 1 187 (by decide +kernel)
theorem kw_3_210 : (Jvm.Cond.methodLink "ParishUnion" (443 : Nat) ({ cls := "ParishUnion$Reader", name := "read", desc := "(LParishUnion$Act;)I" } : Jvm.MethodName)) ∈ gT := gT_of (tb_3 _ (List.mem_of_getElem? (i := 210) rfl)) rfl
theorem kw_3_213 : (Jvm.Cond.code ({ cls := "ParishUnion$Reader", name := "read", desc := "(LParishUnion$Act;)I" } : Jvm.MethodName) prog_9_method_2_code (3 : Nat) (Option.some Jvm.ClassFile.FieldType.int)) ∈ gT := gT_of (tb_3 _ (List.mem_of_getElem? (i := 213) rfl)) rfl
theorem okX7_read : gQok yX7_read cX7_read 3 (Option.some Jvm.ClassFile.FieldType.int) 1 := ⟨kw_3_213, kw_1_12, by decide +kernel, by decide +kernel, by decide +kernel⟩
theorem kw_3_211 : (Jvm.Cond.instanceMethod ({ cls := "ParishUnion$Reader", name := "read", desc := "(LParishUnion$Act;)I" } : Jvm.MethodName)) ∈ gT := gT_of (tb_3 _ (List.mem_of_getElem? (i := 211) rfl)) rfl
theorem kw_3_212 : (Jvm.Cond.selects "ParishUnion$Reader" ({ cls := "ParishUnion$Reader", name := "read", desc := "(LParishUnion$Act;)I" } : Jvm.MethodName) ({ cls := "ParishUnion$Reader", name := "read", desc := "(LParishUnion$Act;)I" } : Jvm.MethodName)) ∈ gT := gT_of (tb_3 _ (List.mem_of_getElem? (i := 212) rfl)) rfl
theorem dX11_readTape_51 : decode cX11_readTape 51 = .ok (.ireturn, 1) := dc_172 (by decide +kernel)
abbrev R_X11_readTape : Room := { frames := 9, cells := 0, slots := 0, locals := 196 }
set_option maxRecDepth 100000 in
set_option maxHeartbeats 4000000 in
theorem s_X11_readTape {l : Launch} {n0 : Nat} {D : va_G} {cA : Nat → ClassId} {M : gM} (a : Int) (r_a : 0 ≤ a ∧ a ≤ 300) {sz : Nat} (hsz : 206 ≤ sz) (I : gI sz M) (C : gC sz M) (q_1_13 : 0 ≤ M 1 13 ∧ M 1 13 ≤ 10)  : Met l yX11_readTape (gWsOf yX11_readTape cX11_readTape 3 (Option.some Jvm.ClassFile.FieldType.int)) R_X11_readTape (gPc n0 D cA [gA n0 0, gJ a] M sz) (gQi n0 D cA sz (fun z M1 => (-1 ≤ z ∧ z ≤ 150) ∧ gI sz M1 ∧ gC sz M1 ∧ gFr 1015021824 M M1)) 0 0 (fun q => n0 ≤ q) := by
  refine gMetI [gA n0 0, gJ a] (by decide) (Nat.le_of_ble_eq_true rfl) ⟨rfl, rfl⟩ ?_
  intro p e s m args below meth cd Q X hq
  have X : gCx p s m args meth cd n0 D cA "ParishUnion" cX11_readTape 3 := X
  show G p l e R_X11_readTape s m args below meth cd n0 D cA 3 Q 0 0 M sz 0 [(0, gA n0 0), (1, gJ a)] []
  obtain ⟨v1, hv1, rv1⟩ := gRd I (by decide) (gsz hsz (by decide)) rc_1_13.1
  refine g_aload_n (n := 1) X 0 dX11_readTape_0 rfl rfl rfl ?_
  refine gg_11_0 (n := 4) (z := 1) X (by decide) (gsz hsz (by decide)) lay_0 kw_2_231 dX11_readTape_1 rfl (rf_0_0 I (gsz hsz (by decide))) (by decide) ?_
  refine gg_9_3 (n := 7) (z := 7) X (by decide) (gsz hsz (by decide)) lay_1 kw_2_113 dX11_readTape_4 rfl (rf_1_3 I (gsz hsz (by decide))) (by decide) ?_
  refine g_aload_n (n := 8) X 0 dX11_readTape_7 rfl rfl rfl ?_
  refine gg_11_0 (n := 11) (z := 1) X (by decide) (gsz hsz (by decide)) lay_0 kw_2_231 dX11_readTape_8 rfl (rf_0_0 I (gsz hsz (by decide))) (by decide) ?_
  refine gg_9_13 (n := 14) (z := v1) X (by decide) (gsz hsz (by decide)) lay_1 kw_2_135 dX11_readTape_11 rfl hv1 ?_
  obtain ⟨o2, ho2, ro2⟩ : ∃ o : Int, o = 87 + 6 * v1 ∧ (87 ≤ o ∧ o ≤ 147 ∧ (o - 87) % 6 = 0) := ⟨_, rfl, by omega⟩
  refine g_aald5 (n := 15) (t := o2) X (by decide) (gsz hsz (by decide)) lay_7 (by omega) (by omega) (by decide) (gA7 I hsz (by omega) (by omega) (by omega)) (by omega) dX11_readTape_14 rfl ?_
  refine g_astore_n (n := 16) (L' := [(2, gA n0 o2), (0, gA n0 0), (1, gJ a)]) X dX11_readTape_15 rfl (by decide) rfl rfl ?_
  refine g_aload_n (n := 17) X 0 dX11_readTape_16 rfl rfl rfl ?_
  refine g_aload_n (n := 18) X 1 dX11_readTape_17 rfl rfl rfl ?_
  refine gg_11_0 (n := 21) (z := 1) X (by decide) (gsz hsz (by decide)) lay_0 kw_2_231 dX11_readTape_18 rfl (rf_0_0 I (gsz hsz (by decide))) (by decide) ?_
  refine gg_9_4 (n := 24) (z := 8) X (by decide) (gsz hsz (by decide)) lay_1 kw_2_115 dX11_readTape_21 rfl (rf_1_4 I (gsz hsz (by decide))) (by decide) ?_
  refine g_aload_n (n := 25) X 1 dX11_readTape_24 rfl rfl rfl ?_
  refine gg_11_0 (n := 28) (z := 1) X (by decide) (gsz hsz (by decide)) lay_0 kw_2_231 dX11_readTape_25 rfl (rf_0_0 I (gsz hsz (by decide))) (by decide) ?_
  obtain ⟨v3, hv3, rv3⟩ := gRd I (by decide) (gsz hsz (by decide)) rc_1_14.1
  refine gg_9_14 (n := 31) (z := v3) X (by decide) (gsz hsz (by decide)) lay_1 kw_2_137 dX11_readTape_28 rfl hv3 ?_
  refine g_iload_n (n := 32) X 2 dX11_readTape_31 rfl rfl rfl ?_
  refine g_callVv (n := 35) (As := [gA n0 8, gJ v3, gJ a]) (rest := []) (cs1 := 0) (ss1 := 0) X (s_X0_begin o2 ro2 v3 (by omega) a (by omega) hsz I C ) okX0_begin kw_3_203 ⟨kw_3_204, kw_3_205⟩ ⟨rfl, rfl⟩ ⟨Nat.le_of_ble_eq_true rfl, Nat.le_of_ble_eq_true rfl⟩ rfl (Ao0 ro2) (Aosz hsz ro2) (lay2_A ro2) rfl rfl (Nat.le_of_ble_eq_true rfl) ⟨Nat.le_of_ble_eq_true rfl, Nat.le_of_ble_eq_true rfl⟩ rfl rfl dX11_readTape_32 rfl (fun M5 P6 => ?_)
  obtain ⟨IM5, CM5, FM5⟩ := P6
  refine g_aload_n (n := 36) X 1 dX11_readTape_35 rfl rfl rfl ?_
  refine gg_11_0 (n := 39) (z := 1) X (by decide) (gsz hsz (by decide)) lay_0 kw_2_231 dX11_readTape_36 rfl (rf_0_0 IM5 (gsz hsz (by decide))) (by decide) ?_
  refine g_iconst (n := 40) X dX11_readTape_39 rfl ?_
  refine gp_9_14 (n := 43) X (by decide) (gsz hsz (by decide)) lay_1 kw_2_137 dX11_readTape_40 rfl ?_
  refine G.nm (fun M7 e8 => ?_)
  have IM7 : gI sz M7 := gI.set IM5 rc_1_14.1 (by omega) e8
  have CM7 : gC sz M7 := gC.set CM5 rc_1_14.2.1 e8
  refine g_aload_n (n := 44) X 1 dX11_readTape_43 rfl rfl rfl ?_
  refine gg_11_2 (n := 47) (z := 159) X (by decide) (gsz hsz (by decide)) lay_0 kw_2_233 dX11_readTape_44 rfl (rf_0_2 IM7 (gsz hsz (by decide))) (by decide) ?_
  refine g_aload_n (n := 48) X 0 dX11_readTape_47 rfl rfl rfl ?_
  refine g_callVi (n := 51) (As := [gA n0 o2]) (rest := []) (cs1 := 0) (ss1 := 0) X (s_X7_read o2 ro2 hsz IM7 CM7 ) okX7_read kw_3_210 ⟨kw_3_211, kw_3_212⟩ ⟨rfl, rfl⟩ ⟨Nat.le_of_ble_eq_true rfl, Nat.le_of_ble_eq_true rfl⟩ rfl (by decide) (gsz hsz (by decide)) lay_159 rfl rfl (Nat.le_of_ble_eq_true rfl) ⟨Nat.le_of_ble_eq_true rfl, Nat.le_of_ble_eq_true rfl⟩ rfl rfl dX11_readTape_48 rfl (fun v9 M10 P11 => ?_)
  obtain ⟨rv9, IM10, CM10, FM10⟩ := P11
  exact hq _ _ _ _ dX11_readTape_51 ⟨by omega, IM10, CM10, (gFr.c (gFr.s (gFr.c gFr.rf FM5 rfl) e8 rc_1_14.2.2 rfl) FM10 rfl)⟩
theorem dX11_text_0 : decode cX11_text 0 = .ok (.iload_n 1, 1) := dc_27 (by decide +kernel)
theorem dX11_text_1 : decode cX11_text 1 = .ok (.iconst 0, 1) := dc_3 (by decide +kernel)
theorem dX11_text_2 : decode cX11_text 2 = .ok (.sipush 300, 3) := dc_17 1 44 300 (by decide +kernel)
theorem dX11_text_5 : decode cX11_text 5 = .ok (.invokestatic 62, 3) := dc_184 0 62 (by decide +kernel)
theorem dX11_text_8 : decode cX11_text 8 = .ok (.ifCond .ne 6, 3) := dc_154 0 6 6 (by decide +kernel)
theorem dX11_text_14 : decode cX11_text 14 = .ok (.aload_n 0, 1) := dc_42 (by decide +kernel)
theorem dX11_text_15 : decode cX11_text 15 = .ok (.getfield 10, 3) := dc_180 0 10 (by decide +kernel)
theorem dX11_text_18 : decode cX11_text 18 = .ok (.getfield 219, 3) := dc_180 0 219 (by decide +kernel)
theorem dX11_text_21 : decode cX11_text 21 = .ok (.bipush 10, 2) := dc_16 10 10 (by decide +kernel)
theorem dX11_text_23 : decode cX11_text 23 = .ok (.if_icmp .lt 6, 3) := dc_161 0 6 6 (by decide +kernel)
theorem dX11_text_29 : decode cX11_text 29 = .ok (.aload_n 0, 1) := dc_42 (by decide +kernel)
theorem dX11_text_30 : decode cX11_text 30 = .ok (.iload_n 1, 1) := dc_27 (by decide +kernel)
theorem dX11_text_31 : decode cX11_text 31 = .ok (.invokevirtual 222, 3) := dc_182 0 222 (by decide +kernel)
theorem kw_3_199 : (Jvm.Cond.methodLink "ParishUnion" (222 : Nat) ({ cls := "ParishUnion", name := "readTape", desc := "(I)I" } : Jvm.MethodName)) ∈ gT := gT_of (tb_3 _ (List.mem_of_getElem? (i := 199) rfl)) rfl
theorem kw_3_202 : (Jvm.Cond.code ({ cls := "ParishUnion", name := "readTape", desc := "(I)I" } : Jvm.MethodName) prog_1_method_59_code (3 : Nat) (Option.some Jvm.ClassFile.FieldType.int)) ∈ gT := gT_of (tb_3 _ (List.mem_of_getElem? (i := 202) rfl)) rfl
theorem okX11_readTape : gQok yX11_readTape cX11_readTape 3 (Option.some Jvm.ClassFile.FieldType.int) 1 := ⟨kw_3_202, kw_1_1, by decide +kernel, by decide +kernel, by decide +kernel⟩
theorem kw_3_201 : (Jvm.Cond.instanceMethod ({ cls := "ParishUnion", name := "readTape", desc := "(I)I" } : Jvm.MethodName)) ∈ gT := gT_of (tb_3 _ (List.mem_of_getElem? (i := 201) rfl)) rfl
theorem kw_0_6 : (Jvm.Cond.selects "ParishUnion" ({ cls := "ParishUnion", name := "readTape", desc := "(I)I" } : Jvm.MethodName) ({ cls := "ParishUnion", name := "readTape", desc := "(I)I" } : Jvm.MethodName)) ∈ gT := gT_of (tb_0 _ (List.mem_of_getElem? (i := 6) rfl)) rfl
theorem dX11_text_34 : decode cX11_text 34 = .ok (.istore_n 2, 1) := dc_61 (by decide +kernel)
theorem dX11_text_35 : decode cX11_text 35 = .ok (.iload_n 2, 1) := dc_28 (by decide +kernel)
theorem dX11_text_36 : decode cX11_text 36 = .ok (.iconst (-1), 1) := dc_2 (by decide +kernel)
theorem dX11_text_37 : decode cX11_text 37 = .ok (.if_icmp .eq 8, 3) := dc_159 0 8 8 (by decide +kernel)
theorem dX11_text_45 : decode cX11_text 45 = .ok (.aload_n 0, 1) := dc_42 (by decide +kernel)
theorem dX11_text_46 : decode cX11_text 46 = .ok (.getfield 10, 3) := dc_180 0 10 (by decide +kernel)
theorem dX11_text_49 : decode cX11_text 49 = .ok (.dup, 1) := dc_89 (by decide +kernel)
theorem dX11_text_50 : decode cX11_text 50 = .ok (.getfield 219, 3) := dc_180 0 219 (by decide +kernel)
theorem dX11_text_53 : decode cX11_text 53 = .ok (.dup_x1, 1) := dc_90 (by decide +kernel)
theorem dX11_text_54 : decode cX11_text 54 = .ok (.iconst 1, 1) := dc_4 (by decide +kernel)
theorem dX11_text_55 : decode cX11_text 55 = .ok (.iadd, 1) := dc_96 (by decide +kernel)
theorem dX11_text_56 : decode cX11_text 56 = .ok (.putfield 219, 3) := dc_181 0 219 (by decide +kernel)
theorem dX11_text_59 : decode cX11_text 59 = .ok (.ireturn, 1) := dc_172 (by decide +kernel)
theorem dX11_text_40 : decode cX11_text 40 = .ok (.bipush (-10), 2) := dc_16 246 (-10) (by decide +kernel)
theorem dX11_text_42 : decode cX11_text 42 = .ok (.iload_n 2, 1) := dc_28 (by decide +kernel)
theorem dX11_text_43 : decode cX11_text 43 = .ok (.isub, 1) := dc_100 (by decide +kernel)
theorem dX11_text_44 : decode cX11_text 44 = .ok (.ireturn, 1) := dc_172 (by decide +kernel)
theorem dX11_text_26 : decode cX11_text 26 = .ok (.bipush (-4), 2) := dc_16 252 (-4) (by decide +kernel)
theorem dX11_text_28 : decode cX11_text 28 = .ok (.ireturn, 1) := dc_172 (by decide +kernel)
theorem dX11_text_11 : decode cX11_text 11 = .ok (.bipush (-2), 2) := dc_16 254 (-2) (by decide +kernel)
theorem dX11_text_13 : decode cX11_text 13 = .ok (.ireturn, 1) := dc_172 (by decide +kernel)
abbrev R_X11_text : Room := { frames := 10, cells := 0, slots := 0, locals := 218 }
set_option maxRecDepth 100000 in
set_option maxHeartbeats 4000000 in
theorem s_X11_text {l : Launch} {n0 : Nat} {D : va_G} {cA : Nat → ClassId} {M : gM} (a : Int) (r_a : -2147483648 ≤ a ∧ a ≤ 2147483647) {sz : Nat} (hsz : 206 ≤ sz) (I : gI sz M) (C : gC sz M) (q_1_13 : 0 ≤ M 1 13 ∧ M 1 13 ≤ 10)  : Met l yX11_text (gWsOf yX11_text cX11_text 3 (Option.some Jvm.ClassFile.FieldType.int)) R_X11_text (gPc n0 D cA [gA n0 0, gJ a] M sz) (gQi n0 D cA sz (fun z M1 => (-160 ≤ z ∧ z ≤ 9) ∧ gI sz M1 ∧ gC sz M1 ∧ gFr 1019216128 M M1 ∧ (M1 1 13 ≤ 10))) 0 0 (fun q => n0 ≤ q) := by
  refine gMetI [gA n0 0, gJ a] (by decide) (Nat.le_of_ble_eq_true rfl) ⟨rfl, rfl⟩ ?_
  intro p e s m args below meth cd Q X hq
  have X : gCx p s m args meth cd n0 D cA "ParishUnion" cX11_text 3 := X
  show G p l e R_X11_text s m args below meth cd n0 D cA 3 Q 0 0 M sz 0 [(0, gA n0 0), (1, gJ a)] []
  obtain ⟨v1, hv1, rv1⟩ := gRd I (by decide) (gsz hsz (by decide)) rc_1_13.1
  refine g_iload_n (n := 1) X 1 dX11_text_0 rfl rfl rfl ?_
  refine g_iconst (n := 2) X dX11_text_1 rfl ?_
  refine g_sipush (n := 5) X dX11_text_2 (by decide +kernel) rfl ?_
  refine g_callSi (n := 8) (As := [gJ a, gJ 0, gJ 300]) (rest := []) (cs1 := 0) (ss1 := 0) X (s_X11_within a (by omega) 0 (by omega) 300 (by omega) hsz I C ) okX11_within kw_3_29 kw_3_30 ⟨rfl, rfl⟩ ⟨Nat.le_of_ble_eq_true rfl, Nat.le_of_ble_eq_true rfl⟩ rfl rfl (Nat.le_of_ble_eq_true rfl) ⟨Nat.le_of_ble_eq_true rfl, Nat.le_of_ble_eq_true rfl⟩ rfl rfl dX11_text_5 rfl (fun v2 M3 P4 => ?_)
  obtain ⟨rfl, rv2, xv2⟩ := P4
  refine g_if_ne (n := 11) (tgt := 14) X dX11_text_8 (by decide) (by omega) rfl (fun c5 => ?_) (fun c5 => ?_)
  · refine g_aload_n (n := 15) X 0 dX11_text_14 rfl rfl rfl ?_
    refine gg_11_0 (n := 18) (z := 1) X (by decide) (gsz hsz (by decide)) lay_0 kw_2_231 dX11_text_15 rfl (rf_0_0 I (gsz hsz (by decide))) (by decide) ?_
    refine gg_9_13 (n := 21) (z := v1) X (by decide) (gsz hsz (by decide)) lay_1 kw_2_135 dX11_text_18 rfl hv1 ?_
    refine g_bipush (n := 23) X dX11_text_21 (by decide +kernel) rfl ?_
    refine g_icmp_lt (n := 26) (tgt := 29) X dX11_text_23 (by decide) (by omega) (by omega) rfl (fun c6 => ?_) (fun c6 => ?_)
    · refine g_aload_n (n := 30) X 0 dX11_text_29 rfl rfl rfl ?_
      refine g_iload_n (n := 31) X 1 dX11_text_30 rfl rfl rfl ?_
      refine g_callVi (n := 34) (As := [gJ a]) (rest := []) (cs1 := 0) (ss1 := 0) X (s_X11_readTape a (by omega) hsz I C (by have := hv1; omega)) okX11_readTape kw_3_199 ⟨kw_3_201, kw_0_6⟩ ⟨rfl, rfl⟩ ⟨Nat.le_of_ble_eq_true rfl, Nat.le_of_ble_eq_true rfl⟩ rfl (by decide) (gsz hsz (by decide)) lay_0 rfl rfl (Nat.le_of_ble_eq_true rfl) ⟨Nat.le_of_ble_eq_true rfl, Nat.le_of_ble_eq_true rfl⟩ rfl rfl dX11_text_31 rfl (fun v7 M8 P9 => ?_)
      obtain ⟨rv7, IM8, CM8, FM8⟩ := P9
      refine g_istore_n (n := 35) (L' := [(2, gJ v7), (0, gA n0 0), (1, gJ a)]) X dX11_text_34 rfl (by decide) rfl rfl ?_
      refine g_iload_n (n := 36) X 0 dX11_text_35 rfl rfl rfl ?_
      refine g_iconst (n := 37) X dX11_text_36 rfl ?_
      refine g_icmp_eq (n := 40) (tgt := 45) X dX11_text_37 (by decide) (by omega) (by omega) rfl (fun c10 => ?_) (fun c10 => ?_)
      · refine g_aload_n (n := 46) X 1 dX11_text_45 rfl rfl rfl ?_
        refine gg_11_0 (n := 49) (z := 1) X (by decide) (gsz hsz (by decide)) lay_0 kw_2_231 dX11_text_46 rfl (rf_0_0 IM8 (gsz hsz (by decide))) (by decide) ?_
        refine g_dup (n := 50) X dX11_text_49 rfl rfl ?_
        refine gg_9_13 (n := 53) (z := v1) X (by decide) (gsz hsz (by decide)) lay_1 kw_2_135 dX11_text_50 rfl ((gFr.at FM8 rc_1_13.2.2 rfl).trans hv1) ?_
        refine g_dup_x1 (n := 54) X dX11_text_53 rfl rfl rfl ?_
        refine g_iconst (n := 55) X dX11_text_54 rfl ?_
        refine g_iadd (n := 56) (z := v1 + 1) X dX11_text_55 (by omega) rfl ?_
        refine gp_9_13 (n := 59) X (by decide) (gsz hsz (by decide)) lay_1 kw_2_135 dX11_text_56 rfl ?_
        refine G.nm (fun M11 e12 => ?_)
        have IM11 : gI sz M11 := gI.set IM8 rc_1_13.1 (by omega) e12
        have CM11 : gC sz M11 := gC.set CM8 rc_1_13.2.1 e12
        exact hq _ _ _ _ dX11_text_59 ⟨by omega, IM11, CM11, (gFr.s (gFr.c gFr.rf FM8 rfl) e12 rc_1_13.2.2 rfl), by have q1 := ((congrFun (congrFun e12 _) _).trans (gset_eq _ _ _ _)); omega⟩
      · refine g_bipush (n := 42) X dX11_text_40 (by decide +kernel) rfl ?_
        refine g_iload_n (n := 43) X 0 dX11_text_42 rfl rfl rfl ?_
        refine g_isub (n := 44) (z := (-10) - v7) X dX11_text_43 rfl rfl ?_
        exact hq _ _ _ _ dX11_text_44 ⟨by omega, IM8, CM8, (gFr.c gFr.rf FM8 rfl), by have q1 := ((gFr.at FM8 rc_1_13.2.2 rfl).trans hv1); omega⟩
    · refine g_bipush (n := 28) X dX11_text_26 (by decide +kernel) rfl ?_
      exact hq _ _ _ _ dX11_text_28 ⟨by omega, I, C, gFr.rf, by have q1 := hv1; omega⟩
  · refine g_bipush (n := 13) X dX11_text_11 (by decide +kernel) rfl ?_
    exact hq _ _ _ _ dX11_text_13 ⟨by omega, I, C, gFr.rf, by have q1 := hv1; omega⟩
theorem dX11_shareOut_0 : decode cX11_shareOut 0 = .ok (.aload_n 0, 1) := dc_42 (by decide +kernel)
theorem dX11_shareOut_1 : decode cX11_shareOut 1 = .ok (.iload_n 1, 1) := dc_27 (by decide +kernel)
theorem dX11_shareOut_2 : decode cX11_shareOut 2 = .ok (.invokevirtual 447, 3) := dc_182 1 191 (by decide +kernel)
theorem kw_5_59 : (Jvm.Cond.methodLink "ParishUnion" (447 : Nat) ({ cls := "ParishUnion", name := "weigh", desc := "(I)V" } : Jvm.MethodName)) ∈ gT := gT_of (tb_5 _ (List.mem_of_getElem? (i := 59) rfl)) rfl
theorem kw_5_62 : (Jvm.Cond.code ({ cls := "ParishUnion", name := "weigh", desc := "(I)V" } : Jvm.MethodName) prog_1_method_62_code (5 : Nat) (Option.none : Option Jvm.ClassFile.FieldType)) ∈ gT := gT_of (tb_5 _ (List.mem_of_getElem? (i := 62) rfl)) rfl
theorem okX11_weigh : gQok yX11_weigh cX11_weigh 5 (Option.none : Option Jvm.ClassFile.FieldType) 1 := ⟨kw_5_62, kw_1_1, by decide +kernel, by decide +kernel, by decide +kernel⟩
theorem kw_5_61 : (Jvm.Cond.instanceMethod ({ cls := "ParishUnion", name := "weigh", desc := "(I)V" } : Jvm.MethodName)) ∈ gT := gT_of (tb_5 _ (List.mem_of_getElem? (i := 61) rfl)) rfl
theorem kw_0_31 : (Jvm.Cond.selects "ParishUnion" ({ cls := "ParishUnion", name := "weigh", desc := "(I)V" } : Jvm.MethodName) ({ cls := "ParishUnion", name := "weigh", desc := "(I)V" } : Jvm.MethodName)) ∈ gT := gT_of (tb_0 _ (List.mem_of_getElem? (i := 31) rfl)) rfl
theorem dX11_shareOut_5 : decode cX11_shareOut 5 = .ok (.lconst 0, 1) := dc_9 (by decide +kernel)
theorem dX11_shareOut_6 : decode cX11_shareOut 6 = .ok (.lstore_n 2, 1) := dc_65 (by decide +kernel)
theorem dX11_shareOut_7 : decode cX11_shareOut 7 = .ok (.iconst 0, 1) := dc_3 (by decide +kernel)
theorem dX11_shareOut_8 : decode cX11_shareOut 8 = .ok (.istore 4, 2) := dc_54 4 (by decide +kernel)
theorem dX11_shareOut_10 : decode cX11_shareOut 10 = .ok (.iload 4, 2) := dc_21 4 (by decide +kernel)
theorem dX11_shareOut_12 : decode cX11_shareOut 12 = .ok (.bipush 6, 2) := dc_16 6 6 (by decide +kernel)
theorem dX11_shareOut_14 : decode cX11_shareOut 14 = .ok (.if_icmp .ge 19, 3) := dc_162 0 19 19 (by decide +kernel)
theorem dX11_shareOut_17 : decode cX11_shareOut 17 = .ok (.lload_n 2, 1) := dc_32 (by decide +kernel)
theorem dX11_shareOut_18 : decode cX11_shareOut 18 = .ok (.aload_n 0, 1) := dc_42 (by decide +kernel)
theorem dX11_shareOut_19 : decode cX11_shareOut 19 = .ok (.getfield 43, 3) := dc_180 0 43 (by decide +kernel)
theorem dX11_shareOut_22 : decode cX11_shareOut 22 = .ok (.iload 4, 2) := dc_21 4 (by decide +kernel)
theorem dX11_shareOut_24 : decode cX11_shareOut 24 = .ok (.laload, 1) := dc_47 (by decide +kernel)
theorem dX11_shareOut_25 : decode cX11_shareOut 25 = .ok (.ladd, 1) := dc_97 (by decide +kernel)
theorem dX11_shareOut_26 : decode cX11_shareOut 26 = .ok (.lstore_n 2, 1) := dc_65 (by decide +kernel)
theorem dX11_shareOut_27 : decode cX11_shareOut 27 = .ok (.iinc 4 1, 3) := dc_132 4 1 1 (by decide +kernel)
theorem dX11_shareOut_30 : decode cX11_shareOut 30 = .ok (.goto (-20), 3) := dc_167 255 236 (-20) (by decide +kernel)
theorem dX11_shareOut_33 : decode cX11_shareOut 33 = .ok (.lload_n 2, 1) := dc_32 (by decide +kernel)
theorem dX11_shareOut_34 : decode cX11_shareOut 34 = .ok (.lconst 0, 1) := dc_9 (by decide +kernel)
theorem dX11_shareOut_35 : decode cX11_shareOut 35 = .ok (.lcmp, 1) := dc_148 (by decide +kernel)
theorem dX11_shareOut_36 : decode cX11_shareOut 36 = .ok (.ifCond .gt 7, 3) := dc_157 0 7 7 (by decide +kernel)
theorem dX11_shareOut_43 : decode cX11_shareOut 43 = .ok (.iconst 0, 1) := dc_3 (by decide +kernel)
theorem dX11_shareOut_44 : decode cX11_shareOut 44 = .ok (.istore 4, 2) := dc_54 4 (by decide +kernel)
theorem dX11_shareOut_46 : decode cX11_shareOut 46 = .ok (.iload 4, 2) := dc_21 4 (by decide +kernel)
theorem dX11_shareOut_48 : decode cX11_shareOut 48 = .ok (.ifCond .eq 9, 3) := dc_153 0 9 9 (by decide +kernel)
theorem dX11_shareOut_57 : decode cX11_shareOut 57 = .ok (.lload_n 2, 1) := dc_32 (by decide +kernel)
theorem dX11_shareOut_58 : decode cX11_shareOut 58 = .ok (.lstore 5, 2) := dc_55 5 (by decide +kernel)
theorem dX11_shareOut_60 : decode cX11_shareOut 60 = .ok (.aload_n 0, 1) := dc_42 (by decide +kernel)
theorem dX11_shareOut_61 : decode cX11_shareOut 61 = .ok (.getfield 10, 3) := dc_180 0 10 (by decide +kernel)
theorem dX11_shareOut_64 : decode cX11_shareOut 64 = .ok (.iload_n 1, 1) := dc_27 (by decide +kernel)
theorem dX11_shareOut_65 : decode cX11_shareOut 65 = .ok (.invokevirtual 304, 3) := dc_182 1 48 (by decide +kernel)
theorem dX11_shareOut_68 : decode cX11_shareOut 68 = .ok (.i2l, 1) := dc_133 (by decide +kernel)
theorem dX11_shareOut_69 : decode cX11_shareOut 69 = .ok (.lstore 7, 2) := dc_55 7 (by decide +kernel)
theorem dX11_shareOut_71 : decode cX11_shareOut 71 = .ok (.lload 7, 2) := dc_22 7 (by decide +kernel)
theorem dX11_shareOut_73 : decode cX11_shareOut 73 = .ok (.lstore 9, 2) := dc_55 9 (by decide +kernel)
theorem dX11_shareOut_75 : decode cX11_shareOut 75 = .ok (.iconst 0, 1) := dc_3 (by decide +kernel)
theorem dX11_shareOut_76 : decode cX11_shareOut 76 = .ok (.istore 11, 2) := dc_54 11 (by decide +kernel)
theorem dX11_shareOut_78 : decode cX11_shareOut 78 = .ok (.iload 11, 2) := dc_21 11 (by decide +kernel)
theorem dX11_shareOut_80 : decode cX11_shareOut 80 = .ok (.bipush 6, 2) := dc_16 6 6 (by decide +kernel)
theorem dX11_shareOut_82 : decode cX11_shareOut 82 = .ok (.if_icmp .ge 68, 3) := dc_162 0 68 68 (by decide +kernel)
theorem dX11_shareOut_85 : decode cX11_shareOut 85 = .ok (.lload 7, 2) := dc_22 7 (by decide +kernel)
theorem dX11_shareOut_87 : decode cX11_shareOut 87 = .ok (.iload 4, 2) := dc_21 4 (by decide +kernel)
theorem dX11_shareOut_89 : decode cX11_shareOut 89 = .ok (.ifCond .eq 7, 3) := dc_153 0 7 7 (by decide +kernel)
theorem dX11_shareOut_96 : decode cX11_shareOut 96 = .ok (.aload_n 0, 1) := dc_42 (by decide +kernel)
theorem dX11_shareOut_97 : decode cX11_shareOut 97 = .ok (.getfield 43, 3) := dc_180 0 43 (by decide +kernel)
theorem dX11_shareOut_100 : decode cX11_shareOut 100 = .ok (.iload 11, 2) := dc_21 11 (by decide +kernel)
theorem dX11_shareOut_102 : decode cX11_shareOut 102 = .ok (.laload, 1) := dc_47 (by decide +kernel)
theorem dX11_shareOut_103 : decode cX11_shareOut 103 = .ok (.lmul, 1) := dc_105 (by decide +kernel)
theorem dX11_shareOut_104 : decode cX11_shareOut 104 = .ok (.lstore 12, 2) := dc_55 12 (by decide +kernel)
theorem dX11_shareOut_106 : decode cX11_shareOut 106 = .ok (.aload_n 0, 1) := dc_42 (by decide +kernel)
theorem dX11_shareOut_107 : decode cX11_shareOut 107 = .ok (.getfield 50, 3) := dc_180 0 50 (by decide +kernel)
theorem kw_2_238 : (Jvm.Cond.fieldLink "ParishUnion" (50 : Nat) "ParishUnion" "shares" "[I") ∈ gT := gT_of (tb_2 _ (List.mem_of_getElem? (i := 238) rfl)) rfl
theorem rf_0_7 {sz : Nat} {M : gM} (I : gI sz M) (h : (0 : Int) < (sz : Int)) : M 0 7 = 172 + 1 := gI.rf I (by decide) h (by decide +kernel)
theorem dX11_shareOut_110 : decode cX11_shareOut 110 = .ok (.iload 11, 2) := dc_21 11 (by decide +kernel)
theorem dX11_shareOut_112 : decode cX11_shareOut 112 = .ok (.lload 12, 2) := dc_22 12 (by decide +kernel)
theorem dX11_shareOut_114 : decode cX11_shareOut 114 = .ok (.lload 5, 2) := dc_22 5 (by decide +kernel)
theorem dX11_shareOut_116 : decode cX11_shareOut 116 = .ok (.ldiv, 1) := dc_109 (by decide +kernel)
theorem dX11_shareOut_117 : decode cX11_shareOut 117 = .ok (.l2i, 1) := dc_136 (by decide +kernel)
theorem dX11_shareOut_118 : decode cX11_shareOut 118 = .ok (.iastore, 1) := dc_79 (by decide +kernel)
theorem ra_172 (k : Int) : gRg 172 k = (-2147483648, 2147483647) ∧ gCr 172 k = false ∧ gG 172 k = 32 := ⟨rfl, rfl, rfl⟩
theorem dX11_shareOut_119 : decode cX11_shareOut 119 = .ok (.aload_n 0, 1) := dc_42 (by decide +kernel)
theorem dX11_shareOut_120 : decode cX11_shareOut 120 = .ok (.getfield 47, 3) := dc_180 0 47 (by decide +kernel)
theorem dX11_shareOut_123 : decode cX11_shareOut 123 = .ok (.iload 11, 2) := dc_21 11 (by decide +kernel)
theorem dX11_shareOut_125 : decode cX11_shareOut 125 = .ok (.lload 12, 2) := dc_22 12 (by decide +kernel)
theorem dX11_shareOut_127 : decode cX11_shareOut 127 = .ok (.lload 5, 2) := dc_22 5 (by decide +kernel)
theorem dX11_shareOut_129 : decode cX11_shareOut 129 = .ok (.lrem, 1) := dc_113 (by decide +kernel)
theorem dX11_shareOut_130 : decode cX11_shareOut 130 = .ok (.lastore, 1) := dc_80 (by decide +kernel)
theorem dX11_shareOut_131 : decode cX11_shareOut 131 = .ok (.lload 9, 2) := dc_22 9 (by decide +kernel)
theorem dX11_shareOut_133 : decode cX11_shareOut 133 = .ok (.aload_n 0, 1) := dc_42 (by decide +kernel)
theorem dX11_shareOut_134 : decode cX11_shareOut 134 = .ok (.getfield 50, 3) := dc_180 0 50 (by decide +kernel)
theorem dX11_shareOut_137 : decode cX11_shareOut 137 = .ok (.iload 11, 2) := dc_21 11 (by decide +kernel)
theorem dX11_shareOut_139 : decode cX11_shareOut 139 = .ok (.iaload, 1) := dc_46 (by decide +kernel)
theorem dX11_shareOut_140 : decode cX11_shareOut 140 = .ok (.i2l, 1) := dc_133 (by decide +kernel)
theorem dX11_shareOut_141 : decode cX11_shareOut 141 = .ok (.lsub, 1) := dc_101 (by decide +kernel)
theorem dX11_shareOut_142 : decode cX11_shareOut 142 = .ok (.lstore 9, 2) := dc_55 9 (by decide +kernel)
theorem dX11_shareOut_144 : decode cX11_shareOut 144 = .ok (.iinc 11 1, 3) := dc_132 11 1 1 (by decide +kernel)
theorem dX11_shareOut_147 : decode cX11_shareOut 147 = .ok (.goto (-69), 3) := dc_167 255 187 (-69) (by decide +kernel)
theorem dX11_shareOut_150 : decode cX11_shareOut 150 = .ok (.iconst 0, 1) := dc_3 (by decide +kernel)
theorem dX11_shareOut_151 : decode cX11_shareOut 151 = .ok (.istore 11, 2) := dc_54 11 (by decide +kernel)
theorem dX11_shareOut_153 : decode cX11_shareOut 153 = .ok (.iload 11, 2) := dc_21 11 (by decide +kernel)
theorem dX11_shareOut_155 : decode cX11_shareOut 155 = .ok (.bipush 6, 2) := dc_16 6 6 (by decide +kernel)
theorem dX11_shareOut_157 : decode cX11_shareOut 157 = .ok (.if_icmp .ge 49, 3) := dc_162 0 49 49 (by decide +kernel)
theorem dX11_shareOut_160 : decode cX11_shareOut 160 = .ok (.lload 9, 2) := dc_22 9 (by decide +kernel)
theorem dX11_shareOut_162 : decode cX11_shareOut 162 = .ok (.lconst 0, 1) := dc_9 (by decide +kernel)
theorem dX11_shareOut_163 : decode cX11_shareOut 163 = .ok (.lcmp, 1) := dc_148 (by decide +kernel)
theorem dX11_shareOut_164 : decode cX11_shareOut 164 = .ok (.ifCond .le 42, 3) := dc_158 0 42 42 (by decide +kernel)
theorem dX11_shareOut_206 : decode cX11_shareOut 206 = .ok (.return_, 1) := dc_177 (by decide +kernel)
theorem dX11_shareOut_167 : decode cX11_shareOut 167 = .ok (.aload_n 0, 1) := dc_42 (by decide +kernel)
theorem dX11_shareOut_168 : decode cX11_shareOut 168 = .ok (.invokevirtual 452, 3) := dc_182 1 196 (by decide +kernel)
theorem kw_5_70 : (Jvm.Cond.methodLink "ParishUnion" (452 : Nat) ({ cls := "ParishUnion", name := "greatestRest", desc := "()I" } : Jvm.MethodName)) ∈ gT := gT_of (tb_5 _ (List.mem_of_getElem? (i := 70) rfl)) rfl
theorem kw_5_73 : (Jvm.Cond.code ({ cls := "ParishUnion", name := "greatestRest", desc := "()I" } : Jvm.MethodName) prog_1_method_61_code (3 : Nat) (Option.some Jvm.ClassFile.FieldType.int)) ∈ gT := gT_of (tb_5 _ (List.mem_of_getElem? (i := 73) rfl)) rfl
theorem okX11_greatestRest : gQok yX11_greatestRest cX11_greatestRest 3 (Option.some Jvm.ClassFile.FieldType.int) 0 := ⟨kw_5_73, kw_1_1, by decide +kernel, by decide +kernel, by decide +kernel⟩
theorem kw_5_72 : (Jvm.Cond.instanceMethod ({ cls := "ParishUnion", name := "greatestRest", desc := "()I" } : Jvm.MethodName)) ∈ gT := gT_of (tb_5 _ (List.mem_of_getElem? (i := 72) rfl)) rfl
theorem kw_0_32 : (Jvm.Cond.selects "ParishUnion" ({ cls := "ParishUnion", name := "greatestRest", desc := "()I" } : Jvm.MethodName) ({ cls := "ParishUnion", name := "greatestRest", desc := "()I" } : Jvm.MethodName)) ∈ gT := gT_of (tb_0 _ (List.mem_of_getElem? (i := 32) rfl)) rfl
theorem dX11_shareOut_171 : decode cX11_shareOut 171 = .ok (.istore 12, 2) := dc_54 12 (by decide +kernel)
theorem dX11_shareOut_173 : decode cX11_shareOut 173 = .ok (.aload_n 0, 1) := dc_42 (by decide +kernel)
theorem dX11_shareOut_174 : decode cX11_shareOut 174 = .ok (.getfield 50, 3) := dc_180 0 50 (by decide +kernel)
theorem dX11_shareOut_177 : decode cX11_shareOut 177 = .ok (.iload 12, 2) := dc_21 12 (by decide +kernel)
theorem dX11_shareOut_179 : decode cX11_shareOut 179 = .ok (.dup2, 1) := dc_92 (by decide +kernel)
theorem dX11_shareOut_180 : decode cX11_shareOut 180 = .ok (.iaload, 1) := dc_46 (by decide +kernel)
theorem dX11_shareOut_181 : decode cX11_shareOut 181 = .ok (.iconst 1, 1) := dc_4 (by decide +kernel)
theorem dX11_shareOut_182 : decode cX11_shareOut 182 = .ok (.iadd, 1) := dc_96 (by decide +kernel)
theorem dX11_shareOut_183 : decode cX11_shareOut 183 = .ok (.iastore, 1) := dc_79 (by decide +kernel)
theorem dX11_shareOut_184 : decode cX11_shareOut 184 = .ok (.aload_n 0, 1) := dc_42 (by decide +kernel)
theorem dX11_shareOut_185 : decode cX11_shareOut 185 = .ok (.getfield 47, 3) := dc_180 0 47 (by decide +kernel)
theorem dX11_shareOut_188 : decode cX11_shareOut 188 = .ok (.iload 12, 2) := dc_21 12 (by decide +kernel)
theorem dX11_shareOut_190 : decode cX11_shareOut 190 = .ok (.ldc2_w 334, 3) := dc_20 1 78 (by decide +kernel)
theorem dX11_shareOut_193 : decode cX11_shareOut 193 = .ok (.lastore, 1) := dc_80 (by decide +kernel)
theorem dX11_shareOut_194 : decode cX11_shareOut 194 = .ok (.lload 9, 2) := dc_22 9 (by decide +kernel)
theorem dX11_shareOut_196 : decode cX11_shareOut 196 = .ok (.lconst 1, 1) := dc_10 (by decide +kernel)
theorem dX11_shareOut_197 : decode cX11_shareOut 197 = .ok (.lsub, 1) := dc_101 (by decide +kernel)
theorem dX11_shareOut_198 : decode cX11_shareOut 198 = .ok (.lstore 9, 2) := dc_55 9 (by decide +kernel)
theorem dX11_shareOut_200 : decode cX11_shareOut 200 = .ok (.iinc 11 1, 3) := dc_132 11 1 1 (by decide +kernel)
theorem dX11_shareOut_203 : decode cX11_shareOut 203 = .ok (.goto (-50), 3) := dc_167 255 206 (-50) (by decide +kernel)
theorem dX11_shareOut_39 : decode cX11_shareOut 39 = .ok (.iconst 1, 1) := dc_4 (by decide +kernel)
theorem dX11_shareOut_40 : decode cX11_shareOut 40 = .ok (.goto 4, 3) := dc_167 0 4 4 (by decide +kernel)
theorem dX11_shareOut_51 : decode cX11_shareOut 51 = .ok (.ldc2_w 450, 3) := dc_20 1 194 (by decide +kernel)
theorem kw_5_69 : (Jvm.Cond.constantLong "ParishUnion" (450 : Nat) (6 : Int64)) ∈ gT := gT_of (tb_5 _ (List.mem_of_getElem? (i := 69) rfl)) rfl
theorem dX11_shareOut_54 : decode cX11_shareOut 54 = .ok (.goto 4, 3) := dc_167 0 4 4 (by decide +kernel)
theorem dX11_shareOut_92 : decode cX11_shareOut 92 = .ok (.lconst 1, 1) := dc_10 (by decide +kernel)
theorem dX11_shareOut_93 : decode cX11_shareOut 93 = .ok (.goto 10, 3) := dc_167 0 10 10 (by decide +kernel)
abbrev R_X11_shareOut : Room := { frames := 5, cells := 0, slots := 0, locals := 112 }
set_option maxRecDepth 100000 in
set_option maxHeartbeats 4000000 in
theorem s_X11_shareOut {l : Launch} {n0 : Nat} {D : va_G} {cA : Nat → ClassId} {M : gM} (a : Int) (r_a : 0 ≤ a ∧ a ≤ 299) {sz : Nat} (hsz : 206 ≤ sz) (I : gI sz M) (C : gC sz M)   : Met l yX11_shareOut (gWsOf yX11_shareOut cX11_shareOut 14 (Option.none : Option Jvm.ClassFile.FieldType)) R_X11_shareOut (gPc n0 D cA [gA n0 0, gJ a] M sz) (gQv n0 D cA sz (fun M1 => gI sz M1 ∧ gC sz M1 ∧ gFr 4294967296 M M1)) 0 0 (fun q => n0 ≤ q) := by
  refine gMetV [gA n0 0, gJ a] (by decide) (Nat.le_of_ble_eq_true rfl) ⟨rfl, rfl⟩ ?_
  intro p e s m args below meth cd Q X hq
  have X : gCx p s m args meth cd n0 D cA "ParishUnion" cX11_shareOut 14 := X
  show G p l e R_X11_shareOut s m args below meth cd n0 D cA 14 Q 0 0 M sz 0 [(0, gA n0 0), (1, gJ a)] []
  refine g_aload_n (n := 1) X 0 dX11_shareOut_0 rfl rfl rfl ?_
  refine g_iload_n (n := 2) X 1 dX11_shareOut_1 rfl rfl rfl ?_
  refine g_callVv (n := 5) (As := [gJ a]) (rest := []) (cs1 := 0) (ss1 := 0) X (s_X11_weigh a (by omega) hsz I C ) okX11_weigh kw_5_59 ⟨kw_5_61, kw_0_31⟩ ⟨rfl, rfl⟩ ⟨Nat.le_of_ble_eq_true rfl, Nat.le_of_ble_eq_true rfl⟩ rfl (by decide) (gsz hsz (by decide)) lay_0 rfl rfl (Nat.le_of_ble_eq_true rfl) ⟨Nat.le_of_ble_eq_true rfl, Nat.le_of_ble_eq_true rfl⟩ rfl rfl dX11_shareOut_2 rfl (fun M2 P3 => ?_)
  obtain ⟨IM2, CM2, FM2⟩ := P3
  refine g_lconst (n := 6) (z := 0) X dX11_shareOut_5 (by decide +kernel) rfl ?_
  refine g_lstore_n (n := 7) (L' := [(2, gV 0), (0, gA n0 0), (1, gJ a)]) X dX11_shareOut_6 rfl (by decide) rfl rfl ?_
  refine g_iconst (n := 8) X dX11_shareOut_7 rfl ?_
  refine g_istore (n := 10) (L' := [(4, gJ 0), (2, gV 0), (0, gA n0 0), (1, gJ a)]) X dX11_shareOut_8 (by decide) rfl rfl ?_
  have j7 : ∀ (N1734 : Nat) (v4 v5 : Int) , (-9223372036854775808 ≤ v4 ∧ v4 ≤ 9223372036854775807) → (0 ≤ v5 ∧ v5 ≤ 6) → (6 - v5).toNat < N1734 → G p l e R_X11_shareOut s m args below meth cd n0 D cA 14 Q 0 0 M2 sz 10 [(0, gA n0 0), (1, gJ a), (2, gV v4), (4, gJ v5)] [] := by
    intro N1734; induction N1734 with
    | zero => intro v4 v5 rv4 rv5 hm1736; exfalso; omega
    | succ N1734 ih1735 =>
      intro v4 v5 rv4 rv5 hm1736
      refine g_iload (n := 12) X 3 dX11_shareOut_10 rfl rfl ?_
      refine g_bipush (n := 14) X dX11_shareOut_12 (by decide +kernel) rfl ?_
      refine g_icmp_ge (n := 17) (tgt := 33) X dX11_shareOut_14 (by decide) (by omega) (by omega) rfl (fun c1737 => ?_) (fun c1737 => ?_)
      · refine g_lload_n (n := 34) X 2 dX11_shareOut_33 rfl rfl rfl ?_
        refine g_lconst (n := 35) (z := 0) X dX11_shareOut_34 (by decide +kernel) rfl ?_
        refine g_lcmp2 (n := 36) X dX11_shareOut_35 (by omega) (by omega) rfl (fun v1740 xv1740 rv1740 => ?_)
        refine g_if_gt (n := 39) (tgt := 43) X dX11_shareOut_36 (by decide) (by omega) rfl (fun c1741 => ?_) (fun c1741 => ?_)
        · refine g_iconst (n := 44) X dX11_shareOut_43 rfl ?_
          refine g_istore (n := 46) (L' := [(4, gJ 0), (0, gA n0 0), (1, gJ a), (2, gV v4)]) X dX11_shareOut_44 (by decide) rfl rfl ?_
          refine g_iload (n := 48) X 0 dX11_shareOut_46 rfl rfl ?_
          refine g_if_eq (n := 51) (tgt := 57) X dX11_shareOut_48 (by decide) (by omega) rfl (fun c1742 => ?_) (fun c1742 => by exfalso; omega)
          refine g_lload_n (n := 58) X 3 dX11_shareOut_57 rfl rfl rfl ?_
          refine g_lstore (n := 60) (L' := [(5, gV v4), (4, gJ 0), (0, gA n0 0), (1, gJ a), (2, gV v4)]) X dX11_shareOut_58 (by decide) rfl rfl ?_
          refine g_aload_n (n := 61) X 2 dX11_shareOut_60 rfl rfl rfl ?_
          refine gg_11_0 (n := 64) (z := 1) X (by decide) (gsz hsz (by decide)) lay_0 kw_2_231 dX11_shareOut_61 rfl (rf_0_0 IM2 (gsz hsz (by decide))) (by decide) ?_
          refine g_iload_n (n := 65) X 3 dX11_shareOut_64 rfl rfl rfl ?_
          refine g_callVi (n := 68) (As := [gJ a]) (rest := []) (cs1 := 0) (ss1 := 0) X (s_X9_costOf a (by omega) hsz IM2 CM2 ) okX9_costOf kw_5_15 ⟨kw_5_16, kw_5_17⟩ ⟨rfl, rfl⟩ ⟨Nat.le_of_ble_eq_true rfl, Nat.le_of_ble_eq_true rfl⟩ rfl (by decide) (gsz hsz (by decide)) lay_1 rfl rfl (Nat.le_of_ble_eq_true rfl) ⟨Nat.le_of_ble_eq_true rfl, Nat.le_of_ble_eq_true rfl⟩ rfl rfl dX11_shareOut_65 rfl (fun v1743 M1744 P1745 => ?_)
          obtain ⟨rfl, rv1743⟩ := P1745
          refine g_i2lE (n := 69) (z := v1743) X dX11_shareOut_68 (g_i2l (by omega)) rfl ?_
          refine g_lstore (n := 71) (L' := [(7, gV v1743), (5, gV v4), (4, gJ 0), (0, gA n0 0), (1, gJ a), (2, gV v4)]) X dX11_shareOut_69 (by decide) rfl rfl ?_
          refine g_lload (n := 73) X 0 dX11_shareOut_71 rfl rfl ?_
          refine g_lstore (n := 75) (L' := [(9, gV v1743), (7, gV v1743), (5, gV v4), (4, gJ 0), (0, gA n0 0), (1, gJ a), (2, gV v4)]) X dX11_shareOut_73 (by decide) rfl rfl ?_
          refine g_iconst (n := 76) X dX11_shareOut_75 rfl ?_
          refine g_istore (n := 78) (L' := [(11, gJ 0), (9, gV v1743), (7, gV v1743), (5, gV v4), (4, gJ 0), (0, gA n0 0), (1, gJ a), (2, gV v4)]) X dX11_shareOut_76 (by decide) rfl rfl ?_
          have j1749 : ∀ (N2515 : Nat) (v1746 v1747 : Int) (M1748 : gM) , (-9223372036854775808 ≤ v1746 ∧ v1746 ≤ 9223372036854775807) → (0 ≤ v1747 ∧ v1747 ≤ 6) → gI sz M1748 → gC sz M1748 → gFr 4294967296 M2 M1748 → (6 - v1747).toNat < N2515 → G p l e R_X11_shareOut s m args below meth cd n0 D cA 14 Q 0 0 M1748 sz 78 [(0, gA n0 0), (4, gJ 0), (5, gV v4), (7, gV v1743), (9, gV v1746), (11, gJ v1747)] [] := by
            intro N2515; induction N2515 with
            | zero => intro v1746 v1747 M1748 rv1746 rv1747 IM1748 CM1748 FM1748 hm2517; exfalso; omega
            | succ N2515 ih2516 =>
              intro v1746 v1747 M1748 rv1746 rv1747 IM1748 CM1748 FM1748 hm2517
              refine g_iload (n := 80) X 5 dX11_shareOut_78 rfl rfl ?_
              refine g_bipush (n := 82) X dX11_shareOut_80 (by decide +kernel) rfl ?_
              refine g_icmp_ge (n := 85) (tgt := 150) X dX11_shareOut_82 (by decide) (by omega) (by omega) rfl (fun c2518 => ?_) (fun c2518 => ?_)
              · refine g_iconst (n := 151) X dX11_shareOut_150 rfl ?_
                refine g_istore (n := 153) (L' := [(11, gJ 0), (0, gA n0 0), (4, gJ 0), (5, gV v4), (7, gV v1743), (9, gV v1746)]) X dX11_shareOut_151 (by decide) rfl rfl ?_
                have j2522 : ∀ (N2583 : Nat) (v2519 v2520 : Int) (M2521 : gM) , (-9223372036854775808 ≤ v2519 ∧ v2519 ≤ 9223372036854775807) → (0 ≤ v2520 ∧ v2520 ≤ 6) → gI sz M2521 → gC sz M2521 → gFr 4294967296 M1748 M2521 → (v2519 + 9223372036854775808).toNat < N2583 → G p l e R_X11_shareOut s m args below meth cd n0 D cA 14 Q 0 0 M2521 sz 153 [(0, gA n0 0), (9, gV v2519), (11, gJ v2520)] [] := by
                  intro N2583; induction N2583 with
                  | zero => intro v2519 v2520 M2521 rv2519 rv2520 IM2521 CM2521 FM2521 hm2585; exfalso; omega
                  | succ N2583 ih2584 =>
                    intro v2519 v2520 M2521 rv2519 rv2520 IM2521 CM2521 FM2521 hm2585
                    refine g_iload (n := 155) X 2 dX11_shareOut_153 rfl rfl ?_
                    refine g_bipush (n := 157) X dX11_shareOut_155 (by decide +kernel) rfl ?_
                    refine g_icmp_ge (n := 160) (tgt := 206) X dX11_shareOut_157 (by decide) (by omega) (by omega) rfl (fun c2586 => ?_) (fun c2586 => ?_)
                    · exact hq _ _ _ dX11_shareOut_206 ⟨IM2521, CM2521, (gFr.c (gFr.c (gFr.c gFr.rf FM2 rfl) FM1748 rfl) FM2521 rfl)⟩
                    · refine g_lload (n := 162) X 1 dX11_shareOut_160 rfl rfl ?_
                      refine g_lconst (n := 163) (z := 0) X dX11_shareOut_162 (by decide +kernel) rfl ?_
                      refine g_lcmp2 (n := 164) X dX11_shareOut_163 (by omega) (by omega) rfl (fun v2587 xv2587 rv2587 => ?_)
                      refine g_if_le (n := 167) (tgt := 206) X dX11_shareOut_164 (by decide) (by omega) rfl (fun c2588 => ?_) (fun c2588 => ?_)
                      · exact hq _ _ _ dX11_shareOut_206 ⟨IM2521, CM2521, (gFr.c (gFr.c (gFr.c gFr.rf FM2 rfl) FM1748 rfl) FM2521 rfl)⟩
                      · refine g_aload_n (n := 168) X 0 dX11_shareOut_167 rfl rfl rfl ?_
                        refine g_callVi (n := 171) (As := []) (rest := []) (cs1 := 0) (ss1 := 0) X (s_X11_greatestRest  hsz IM2521 CM2521 ) okX11_greatestRest kw_5_70 ⟨kw_5_72, kw_0_32⟩ ⟨rfl, rfl⟩ ⟨Nat.le_of_ble_eq_true rfl, Nat.le_of_ble_eq_true rfl⟩ rfl (by decide) (gsz hsz (by decide)) lay_0 rfl rfl (Nat.le_of_ble_eq_true rfl) ⟨Nat.le_of_ble_eq_true rfl, Nat.le_of_ble_eq_true rfl⟩ rfl rfl dX11_shareOut_168 rfl (fun v2589 M2590 P2591 => ?_)
                        obtain ⟨rfl, rv2589⟩ := P2591
                        refine g_istore (n := 173) (L' := [(12, gJ v2589), (0, gA n0 0), (9, gV v2519), (11, gJ v2520)]) X dX11_shareOut_171 (by decide) rfl rfl ?_
                        refine g_aload_n (n := 174) X 1 dX11_shareOut_173 rfl rfl rfl ?_
                        refine gg_11_7 (n := 177) (z := 172) X (by decide) (gsz hsz (by decide)) lay_0 kw_2_238 dX11_shareOut_174 rfl (rf_0_7 IM2521 (gsz hsz (by decide))) (by decide) ?_
                        refine g_iload (n := 179) X 0 dX11_shareOut_177 rfl rfl ?_
                        refine g_dup2 (n := 180) X dX11_shareOut_179 rfl rfl rfl ?_
                        obtain ⟨v2592, hv2592, rv2592⟩ := gRd IM2521 (by decide) (gsz hsz (by decide)) (ra_172 v2589).1
                        refine g_iald2 (n := 181) (v := v2592) X (by decide) (gsz hsz (by decide)) lay_172 (by omega) (by omega) (by decide) dX11_shareOut_180 rfl hv2592 ?_
                        refine g_iconst (n := 182) X dX11_shareOut_181 rfl ?_
                        refine g_iaddA (n := 183) X dX11_shareOut_182 rfl (fun v2593 rv2593 xv2593 => ?_)
                        clear xv2593
                        refine g_iast (n := 184) X (by decide) (gsz hsz (by decide)) lay_172 (by omega) (by omega) (by decide) dX11_shareOut_183 rfl ?_
                        refine G.nm (fun M2594 e2595 => ?_)
                        have IM2594 : gI sz M2594 := gI.set IM2521 (ra_172 v2589).1 (by omega) e2595
                        have CM2594 : gC sz M2594 := gC.set CM2521 (ra_172 v2589).2.1 e2595
                        refine g_aload_n (n := 185) X 1 dX11_shareOut_184 rfl rfl rfl ?_
                        refine gg_11_6 (n := 188) (z := 171) X (by decide) (gsz hsz (by decide)) lay_0 kw_2_237 dX11_shareOut_185 rfl (rf_0_6 IM2594 (gsz hsz (by decide))) (by decide) ?_
                        refine g_iload (n := 190) X 0 dX11_shareOut_188 rfl rfl ?_
                        refine g_ldc2 (n := 193) (z := (-1)) X dX11_shareOut_190 kw_3_159 (by decide +kernel) rfl ?_
                        refine g_last (n := 194) X (by decide) (gsz hsz (by decide)) lay_171 (by omega) (by omega) (by decide) dX11_shareOut_193 rfl ?_
                        refine G.nm (fun M2596 e2597 => ?_)
                        have IM2596 : gI sz M2596 := gI.set IM2594 (ra_171 v2589).1 (by omega) e2597
                        have CM2596 : gC sz M2596 := gC.set CM2594 (ra_171 v2589).2.1 e2597
                        refine g_lload (n := 196) X 2 dX11_shareOut_194 rfl rfl ?_
                        refine g_lconst (n := 197) (z := 1) X dX11_shareOut_196 (by decide +kernel) rfl ?_
                        refine g_lsub (n := 198) (z := v2519 - 1) X dX11_shareOut_197 (by omega) rfl ?_
                        refine g_lstore (n := 200) (L' := [(9, gV (v2519 - 1)), (12, gJ v2589), (0, gA n0 0), (11, gJ v2520)]) X dX11_shareOut_198 (by decide) rfl rfl ?_
                        refine g_iinc (n := 203) (w := v2520 + 1) (L' := [(11, gJ (v2520 + 1)), (9, gV (v2519 - 1)), (12, gJ v2589), (0, gA n0 0)]) X 3 dX11_shareOut_200 rfl rfl (by decide) rfl rfl ?_
                        refine g_goto (tgt := 153) X dX11_shareOut_203 (by decide) ?_
                        refine G.sub (L' := [(0, gA n0 0), (9, gV (v2519 - 1)), (11, gJ (v2520 + 1))]) [3, 1, 0] rfl ?_
                        exact ih2584 (v2519 - 1) (v2520 + 1) M2596 (by omega) (by omega) IM2596 CM2596 (gFr.s (gFr.s (gFr.c gFr.rf FM2521 rfl) e2595 (ra_172 v2589).2.2 rfl) e2597 (ra_171 v2589).2.2 rfl) (by omega)
                refine G.sub (L' := [(0, gA n0 0), (9, gV v1746), (11, gJ 0)]) [1, 5, 0] rfl ?_
                exact j2522 _ v1746 0 M1748 (by omega) (by omega) IM1748 CM1748 gFr.rf (Nat.lt_succ_self _)
              · refine g_lload (n := 87) X 3 dX11_shareOut_85 rfl rfl ?_
                refine g_iload (n := 89) X 1 dX11_shareOut_87 rfl rfl ?_
                refine g_if_eq (n := 92) (tgt := 96) X dX11_shareOut_89 (by decide) (by omega) rfl (fun c2598 => ?_) (fun c2598 => by exfalso; omega)
                refine g_aload_n (n := 97) X 0 dX11_shareOut_96 rfl rfl rfl ?_
                refine gg_11_5 (n := 100) (z := 170) X (by decide) (gsz hsz (by decide)) lay_0 kw_2_236 dX11_shareOut_97 rfl (rf_0_5 IM1748 (gsz hsz (by decide))) (by decide) ?_
                refine g_iload (n := 102) X 5 dX11_shareOut_100 rfl rfl ?_
                obtain ⟨v2599, hv2599, rv2599⟩ := gRd IM1748 (by decide) (gsz hsz (by decide)) (ra_170 v1747).1
                refine g_lald2 (n := 103) (v := v2599) X (by decide) (gsz hsz (by decide)) lay_170 (by omega) (by omega) (by decide) dX11_shareOut_102 rfl hv2599 ?_
                refine g_lmulA (n := 104) X dX11_shareOut_103 rfl (fun v2600 rv2600 xv2600 => ?_)
                clear xv2600
                refine g_lstore (n := 106) (L' := [(12, gV v2600), (0, gA n0 0), (4, gJ 0), (5, gV v4), (7, gV v1743), (9, gV v1746), (11, gJ v1747)]) X dX11_shareOut_104 (by decide) rfl rfl ?_
                refine g_aload_n (n := 107) X 1 dX11_shareOut_106 rfl rfl rfl ?_
                refine gg_11_7 (n := 110) (z := 172) X (by decide) (gsz hsz (by decide)) lay_0 kw_2_238 dX11_shareOut_107 rfl (rf_0_7 IM1748 (gsz hsz (by decide))) (by decide) ?_
                refine g_iload (n := 112) X 6 dX11_shareOut_110 rfl rfl ?_
                refine g_lload (n := 114) X 0 dX11_shareOut_112 rfl rfl ?_
                refine g_lload (n := 116) X 3 dX11_shareOut_114 rfl rfl ?_
                refine g_ldivA (n := 117) X dX11_shareOut_116 (g_lnz (by omega) (by omega)) rfl (fun v2601 rv2601 xv2601 => ?_)
                clear xv2601
                refine g_l2iA (n := 118) X dX11_shareOut_117 rfl (fun v2602 rv2602 xv2602 => ?_)
                clear xv2602
                refine g_iast (n := 119) X (by decide) (gsz hsz (by decide)) lay_172 (by omega) (by omega) (by decide) dX11_shareOut_118 rfl ?_
                refine G.nm (fun M2603 e2604 => ?_)
                have IM2603 : gI sz M2603 := gI.set IM1748 (ra_172 v1747).1 (by omega) e2604
                have CM2603 : gC sz M2603 := gC.set CM1748 (ra_172 v1747).2.1 e2604
                refine g_aload_n (n := 120) X 1 dX11_shareOut_119 rfl rfl rfl ?_
                refine gg_11_6 (n := 123) (z := 171) X (by decide) (gsz hsz (by decide)) lay_0 kw_2_237 dX11_shareOut_120 rfl (rf_0_6 IM2603 (gsz hsz (by decide))) (by decide) ?_
                refine g_iload (n := 125) X 6 dX11_shareOut_123 rfl rfl ?_
                refine g_lload (n := 127) X 0 dX11_shareOut_125 rfl rfl ?_
                refine g_lload (n := 129) X 3 dX11_shareOut_127 rfl rfl ?_
                refine g_lremA (n := 130) X dX11_shareOut_129 (g_lnz (by omega) (by omega)) rfl (fun v2605 rv2605 xv2605 => ?_)
                clear xv2605
                refine g_last (n := 131) X (by decide) (gsz hsz (by decide)) lay_171 (by omega) (by omega) (by decide) dX11_shareOut_130 rfl ?_
                refine G.nm (fun M2606 e2607 => ?_)
                have IM2606 : gI sz M2606 := gI.set IM2603 (ra_171 v1747).1 (by omega) e2607
                have CM2606 : gC sz M2606 := gC.set CM2603 (ra_171 v1747).2.1 e2607
                refine g_lload (n := 133) X 5 dX11_shareOut_131 rfl rfl ?_
                refine g_aload_n (n := 134) X 1 dX11_shareOut_133 rfl rfl rfl ?_
                refine gg_11_7 (n := 137) (z := 172) X (by decide) (gsz hsz (by decide)) lay_0 kw_2_238 dX11_shareOut_134 rfl (rf_0_7 IM2606 (gsz hsz (by decide))) (by decide) ?_
                refine g_iload (n := 139) X 6 dX11_shareOut_137 rfl rfl ?_
                refine g_iald2 (n := 140) (v := v2602) X (by decide) (gsz hsz (by decide)) lay_172 (by omega) (by omega) (by decide) dX11_shareOut_139 rfl ((congrFun (congrFun e2607 _) _).trans ((gset_ne (by omega)).trans ((congrFun (congrFun e2604 _) _).trans (gset_eq _ _ _ _)))) ?_
                refine g_i2lE (n := 141) (z := v2602) X dX11_shareOut_140 (g_i2l (by omega)) rfl ?_
                refine g_lsubA (n := 142) X dX11_shareOut_141 rfl (fun v2608 rv2608 xv2608 => ?_)
                clear xv2608
                refine g_lstore (n := 144) (L' := [(9, gV v2608), (12, gV v2600), (0, gA n0 0), (4, gJ 0), (5, gV v4), (7, gV v1743), (11, gJ v1747)]) X dX11_shareOut_142 (by decide) rfl rfl ?_
                refine g_iinc (n := 147) (w := v1747 + 1) (L' := [(11, gJ (v1747 + 1)), (9, gV v2608), (12, gV v2600), (0, gA n0 0), (4, gJ 0), (5, gV v4), (7, gV v1743)]) X 6 dX11_shareOut_144 rfl rfl (by decide) rfl rfl ?_
                refine g_goto (tgt := 78) X dX11_shareOut_147 (by decide) ?_
                refine G.sub (L' := [(0, gA n0 0), (4, gJ 0), (5, gV v4), (7, gV v1743), (9, gV v2608), (11, gJ (v1747 + 1))]) [3, 4, 5, 6, 1, 0] rfl ?_
                exact ih2516 v2608 (v1747 + 1) M2606 (by omega) (by omega) IM2606 CM2606 (gFr.s (gFr.s (gFr.c gFr.rf FM1748 rfl) e2604 (ra_172 v1747).2.2 rfl) e2607 (ra_171 v1747).2.2 rfl) (by omega)
          refine G.sub (L' := [(0, gA n0 0), (4, gJ 0), (5, gV v4), (7, gV v1743), (9, gV v1743), (11, gJ 0)]) [5, 4, 3, 2, 1, 0] rfl ?_
          exact j1749 _ v1743 0 M2 (by omega) (by omega) IM2 CM2 gFr.rf (Nat.lt_succ_self _)
        · refine g_iconst (n := 40) X dX11_shareOut_39 rfl ?_
          refine g_goto (tgt := 44) X dX11_shareOut_40 (by decide) ?_
          refine g_istore (n := 46) (L' := [(4, gJ 1), (0, gA n0 0), (1, gJ a), (2, gV v4)]) X dX11_shareOut_44 (by decide) rfl rfl ?_
          refine g_iload (n := 48) X 0 dX11_shareOut_46 rfl rfl ?_
          refine g_if_eq (n := 51) (tgt := 57) X dX11_shareOut_48 (by decide) (by omega) rfl (fun c2609 => by exfalso; omega) (fun c2609 => ?_)
          refine g_ldc2 (n := 54) (z := 6) X dX11_shareOut_51 kw_5_69 (by decide +kernel) rfl ?_
          refine g_goto (tgt := 58) X dX11_shareOut_54 (by decide) ?_
          refine g_lstore (n := 60) (L' := [(5, gV 6), (4, gJ 1), (0, gA n0 0), (1, gJ a), (2, gV v4)]) X dX11_shareOut_58 (by decide) rfl rfl ?_
          refine g_aload_n (n := 61) X 2 dX11_shareOut_60 rfl rfl rfl ?_
          refine gg_11_0 (n := 64) (z := 1) X (by decide) (gsz hsz (by decide)) lay_0 kw_2_231 dX11_shareOut_61 rfl (rf_0_0 IM2 (gsz hsz (by decide))) (by decide) ?_
          refine g_iload_n (n := 65) X 3 dX11_shareOut_64 rfl rfl rfl ?_
          refine g_callVi (n := 68) (As := [gJ a]) (rest := []) (cs1 := 0) (ss1 := 0) X (s_X9_costOf a (by omega) hsz IM2 CM2 ) okX9_costOf kw_5_15 ⟨kw_5_16, kw_5_17⟩ ⟨rfl, rfl⟩ ⟨Nat.le_of_ble_eq_true rfl, Nat.le_of_ble_eq_true rfl⟩ rfl (by decide) (gsz hsz (by decide)) lay_1 rfl rfl (Nat.le_of_ble_eq_true rfl) ⟨Nat.le_of_ble_eq_true rfl, Nat.le_of_ble_eq_true rfl⟩ rfl rfl dX11_shareOut_65 rfl (fun v2610 M2611 P2612 => ?_)
          obtain ⟨rfl, rv2610⟩ := P2612
          refine g_i2lE (n := 69) (z := v2610) X dX11_shareOut_68 (g_i2l (by omega)) rfl ?_
          refine g_lstore (n := 71) (L' := [(7, gV v2610), (5, gV 6), (4, gJ 1), (0, gA n0 0), (1, gJ a), (2, gV v4)]) X dX11_shareOut_69 (by decide) rfl rfl ?_
          refine g_lload (n := 73) X 0 dX11_shareOut_71 rfl rfl ?_
          refine g_lstore (n := 75) (L' := [(9, gV v2610), (7, gV v2610), (5, gV 6), (4, gJ 1), (0, gA n0 0), (1, gJ a), (2, gV v4)]) X dX11_shareOut_73 (by decide) rfl rfl ?_
          refine g_iconst (n := 76) X dX11_shareOut_75 rfl ?_
          refine g_istore (n := 78) (L' := [(11, gJ 0), (9, gV v2610), (7, gV v2610), (5, gV 6), (4, gJ 1), (0, gA n0 0), (1, gJ a), (2, gV v4)]) X dX11_shareOut_76 (by decide) rfl rfl ?_
          have j2616 : ∀ (N3358 : Nat) (v2613 v2614 : Int) (M2615 : gM) , (-9223372036854775808 ≤ v2613 ∧ v2613 ≤ 9223372036854775807) → (0 ≤ v2614 ∧ v2614 ≤ 6) → gI sz M2615 → gC sz M2615 → gFr 4294967296 M2 M2615 → (6 - v2614).toNat < N3358 → G p l e R_X11_shareOut s m args below meth cd n0 D cA 14 Q 0 0 M2615 sz 78 [(0, gA n0 0), (4, gJ 1), (5, gV 6), (7, gV v2610), (9, gV v2613), (11, gJ v2614)] [] := by
            intro N3358; induction N3358 with
            | zero => intro v2613 v2614 M2615 rv2613 rv2614 IM2615 CM2615 FM2615 hm3360; exfalso; omega
            | succ N3358 ih3359 =>
              intro v2613 v2614 M2615 rv2613 rv2614 IM2615 CM2615 FM2615 hm3360
              refine g_iload (n := 80) X 5 dX11_shareOut_78 rfl rfl ?_
              refine g_bipush (n := 82) X dX11_shareOut_80 (by decide +kernel) rfl ?_
              refine g_icmp_ge (n := 85) (tgt := 150) X dX11_shareOut_82 (by decide) (by omega) (by omega) rfl (fun c3361 => ?_) (fun c3361 => ?_)
              · refine g_iconst (n := 151) X dX11_shareOut_150 rfl ?_
                refine g_istore (n := 153) (L' := [(11, gJ 0), (0, gA n0 0), (4, gJ 1), (5, gV 6), (7, gV v2610), (9, gV v2613)]) X dX11_shareOut_151 (by decide) rfl rfl ?_
                have j3365 : ∀ (N3426 : Nat) (v3362 v3363 : Int) (M3364 : gM) , (-9223372036854775808 ≤ v3362 ∧ v3362 ≤ 9223372036854775807) → (0 ≤ v3363 ∧ v3363 ≤ 6) → gI sz M3364 → gC sz M3364 → gFr 4294967296 M2615 M3364 → (v3362 + 9223372036854775808).toNat < N3426 → G p l e R_X11_shareOut s m args below meth cd n0 D cA 14 Q 0 0 M3364 sz 153 [(0, gA n0 0), (9, gV v3362), (11, gJ v3363)] [] := by
                  intro N3426; induction N3426 with
                  | zero => intro v3362 v3363 M3364 rv3362 rv3363 IM3364 CM3364 FM3364 hm3428; exfalso; omega
                  | succ N3426 ih3427 =>
                    intro v3362 v3363 M3364 rv3362 rv3363 IM3364 CM3364 FM3364 hm3428
                    refine g_iload (n := 155) X 2 dX11_shareOut_153 rfl rfl ?_
                    refine g_bipush (n := 157) X dX11_shareOut_155 (by decide +kernel) rfl ?_
                    refine g_icmp_ge (n := 160) (tgt := 206) X dX11_shareOut_157 (by decide) (by omega) (by omega) rfl (fun c3429 => ?_) (fun c3429 => ?_)
                    · exact hq _ _ _ dX11_shareOut_206 ⟨IM3364, CM3364, (gFr.c (gFr.c (gFr.c gFr.rf FM2 rfl) FM2615 rfl) FM3364 rfl)⟩
                    · refine g_lload (n := 162) X 1 dX11_shareOut_160 rfl rfl ?_
                      refine g_lconst (n := 163) (z := 0) X dX11_shareOut_162 (by decide +kernel) rfl ?_
                      refine g_lcmp2 (n := 164) X dX11_shareOut_163 (by omega) (by omega) rfl (fun v3430 xv3430 rv3430 => ?_)
                      refine g_if_le (n := 167) (tgt := 206) X dX11_shareOut_164 (by decide) (by omega) rfl (fun c3431 => ?_) (fun c3431 => ?_)
                      · exact hq _ _ _ dX11_shareOut_206 ⟨IM3364, CM3364, (gFr.c (gFr.c (gFr.c gFr.rf FM2 rfl) FM2615 rfl) FM3364 rfl)⟩
                      · refine g_aload_n (n := 168) X 0 dX11_shareOut_167 rfl rfl rfl ?_
                        refine g_callVi (n := 171) (As := []) (rest := []) (cs1 := 0) (ss1 := 0) X (s_X11_greatestRest  hsz IM3364 CM3364 ) okX11_greatestRest kw_5_70 ⟨kw_5_72, kw_0_32⟩ ⟨rfl, rfl⟩ ⟨Nat.le_of_ble_eq_true rfl, Nat.le_of_ble_eq_true rfl⟩ rfl (by decide) (gsz hsz (by decide)) lay_0 rfl rfl (Nat.le_of_ble_eq_true rfl) ⟨Nat.le_of_ble_eq_true rfl, Nat.le_of_ble_eq_true rfl⟩ rfl rfl dX11_shareOut_168 rfl (fun v3432 M3433 P3434 => ?_)
                        obtain ⟨rfl, rv3432⟩ := P3434
                        refine g_istore (n := 173) (L' := [(12, gJ v3432), (0, gA n0 0), (9, gV v3362), (11, gJ v3363)]) X dX11_shareOut_171 (by decide) rfl rfl ?_
                        refine g_aload_n (n := 174) X 1 dX11_shareOut_173 rfl rfl rfl ?_
                        refine gg_11_7 (n := 177) (z := 172) X (by decide) (gsz hsz (by decide)) lay_0 kw_2_238 dX11_shareOut_174 rfl (rf_0_7 IM3364 (gsz hsz (by decide))) (by decide) ?_
                        refine g_iload (n := 179) X 0 dX11_shareOut_177 rfl rfl ?_
                        refine g_dup2 (n := 180) X dX11_shareOut_179 rfl rfl rfl ?_
                        obtain ⟨v3435, hv3435, rv3435⟩ := gRd IM3364 (by decide) (gsz hsz (by decide)) (ra_172 v3432).1
                        refine g_iald2 (n := 181) (v := v3435) X (by decide) (gsz hsz (by decide)) lay_172 (by omega) (by omega) (by decide) dX11_shareOut_180 rfl hv3435 ?_
                        refine g_iconst (n := 182) X dX11_shareOut_181 rfl ?_
                        refine g_iaddA (n := 183) X dX11_shareOut_182 rfl (fun v3436 rv3436 xv3436 => ?_)
                        clear xv3436
                        refine g_iast (n := 184) X (by decide) (gsz hsz (by decide)) lay_172 (by omega) (by omega) (by decide) dX11_shareOut_183 rfl ?_
                        refine G.nm (fun M3437 e3438 => ?_)
                        have IM3437 : gI sz M3437 := gI.set IM3364 (ra_172 v3432).1 (by omega) e3438
                        have CM3437 : gC sz M3437 := gC.set CM3364 (ra_172 v3432).2.1 e3438
                        refine g_aload_n (n := 185) X 1 dX11_shareOut_184 rfl rfl rfl ?_
                        refine gg_11_6 (n := 188) (z := 171) X (by decide) (gsz hsz (by decide)) lay_0 kw_2_237 dX11_shareOut_185 rfl (rf_0_6 IM3437 (gsz hsz (by decide))) (by decide) ?_
                        refine g_iload (n := 190) X 0 dX11_shareOut_188 rfl rfl ?_
                        refine g_ldc2 (n := 193) (z := (-1)) X dX11_shareOut_190 kw_3_159 (by decide +kernel) rfl ?_
                        refine g_last (n := 194) X (by decide) (gsz hsz (by decide)) lay_171 (by omega) (by omega) (by decide) dX11_shareOut_193 rfl ?_
                        refine G.nm (fun M3439 e3440 => ?_)
                        have IM3439 : gI sz M3439 := gI.set IM3437 (ra_171 v3432).1 (by omega) e3440
                        have CM3439 : gC sz M3439 := gC.set CM3437 (ra_171 v3432).2.1 e3440
                        refine g_lload (n := 196) X 2 dX11_shareOut_194 rfl rfl ?_
                        refine g_lconst (n := 197) (z := 1) X dX11_shareOut_196 (by decide +kernel) rfl ?_
                        refine g_lsub (n := 198) (z := v3362 - 1) X dX11_shareOut_197 (by omega) rfl ?_
                        refine g_lstore (n := 200) (L' := [(9, gV (v3362 - 1)), (12, gJ v3432), (0, gA n0 0), (11, gJ v3363)]) X dX11_shareOut_198 (by decide) rfl rfl ?_
                        refine g_iinc (n := 203) (w := v3363 + 1) (L' := [(11, gJ (v3363 + 1)), (9, gV (v3362 - 1)), (12, gJ v3432), (0, gA n0 0)]) X 3 dX11_shareOut_200 rfl rfl (by decide) rfl rfl ?_
                        refine g_goto (tgt := 153) X dX11_shareOut_203 (by decide) ?_
                        refine G.sub (L' := [(0, gA n0 0), (9, gV (v3362 - 1)), (11, gJ (v3363 + 1))]) [3, 1, 0] rfl ?_
                        exact ih3427 (v3362 - 1) (v3363 + 1) M3439 (by omega) (by omega) IM3439 CM3439 (gFr.s (gFr.s (gFr.c gFr.rf FM3364 rfl) e3438 (ra_172 v3432).2.2 rfl) e3440 (ra_171 v3432).2.2 rfl) (by omega)
                refine G.sub (L' := [(0, gA n0 0), (9, gV v2613), (11, gJ 0)]) [1, 5, 0] rfl ?_
                exact j3365 _ v2613 0 M2615 (by omega) (by omega) IM2615 CM2615 gFr.rf (Nat.lt_succ_self _)
              · refine g_lload (n := 87) X 3 dX11_shareOut_85 rfl rfl ?_
                refine g_iload (n := 89) X 1 dX11_shareOut_87 rfl rfl ?_
                refine g_if_eq (n := 92) (tgt := 96) X dX11_shareOut_89 (by decide) (by omega) rfl (fun c3441 => by exfalso; omega) (fun c3441 => ?_)
                refine g_lconst (n := 93) (z := 1) X dX11_shareOut_92 (by decide +kernel) rfl ?_
                refine g_goto (tgt := 103) X dX11_shareOut_93 (by decide) ?_
                refine g_lmul (n := 104) (z := v2610 * 1) X dX11_shareOut_103 rfl rfl ?_
                refine g_lstore (n := 106) (L' := [(12, gV (v2610 * 1)), (0, gA n0 0), (4, gJ 1), (5, gV 6), (7, gV v2610), (9, gV v2613), (11, gJ v2614)]) X dX11_shareOut_104 (by decide) rfl rfl ?_
                refine g_aload_n (n := 107) X 1 dX11_shareOut_106 rfl rfl rfl ?_
                refine gg_11_7 (n := 110) (z := 172) X (by decide) (gsz hsz (by decide)) lay_0 kw_2_238 dX11_shareOut_107 rfl (rf_0_7 IM2615 (gsz hsz (by decide))) (by decide) ?_
                refine g_iload (n := 112) X 6 dX11_shareOut_110 rfl rfl ?_
                refine g_lload (n := 114) X 0 dX11_shareOut_112 rfl rfl ?_
                refine g_lload (n := 116) X 3 dX11_shareOut_114 rfl rfl ?_
                refine g_ldivA (n := 117) X dX11_shareOut_116 (by decide +kernel) rfl (fun v3442 rv3442 xv3442 => ?_)
                clear xv3442
                refine g_l2iA (n := 118) X dX11_shareOut_117 rfl (fun v3443 rv3443 xv3443 => ?_)
                clear xv3443
                refine g_iast (n := 119) X (by decide) (gsz hsz (by decide)) lay_172 (by omega) (by omega) (by decide) dX11_shareOut_118 rfl ?_
                refine G.nm (fun M3444 e3445 => ?_)
                have IM3444 : gI sz M3444 := gI.set IM2615 (ra_172 v2614).1 (by omega) e3445
                have CM3444 : gC sz M3444 := gC.set CM2615 (ra_172 v2614).2.1 e3445
                refine g_aload_n (n := 120) X 1 dX11_shareOut_119 rfl rfl rfl ?_
                refine gg_11_6 (n := 123) (z := 171) X (by decide) (gsz hsz (by decide)) lay_0 kw_2_237 dX11_shareOut_120 rfl (rf_0_6 IM3444 (gsz hsz (by decide))) (by decide) ?_
                refine g_iload (n := 125) X 6 dX11_shareOut_123 rfl rfl ?_
                refine g_lload (n := 127) X 0 dX11_shareOut_125 rfl rfl ?_
                refine g_lload (n := 129) X 3 dX11_shareOut_127 rfl rfl ?_
                refine g_lremA (n := 130) X dX11_shareOut_129 (by decide +kernel) rfl (fun v3446 rv3446 xv3446 => ?_)
                clear xv3446
                refine g_last (n := 131) X (by decide) (gsz hsz (by decide)) lay_171 (by omega) (by omega) (by decide) dX11_shareOut_130 rfl ?_
                refine G.nm (fun M3447 e3448 => ?_)
                have IM3447 : gI sz M3447 := gI.set IM3444 (ra_171 v2614).1 (by omega) e3448
                have CM3447 : gC sz M3447 := gC.set CM3444 (ra_171 v2614).2.1 e3448
                refine g_lload (n := 133) X 5 dX11_shareOut_131 rfl rfl ?_
                refine g_aload_n (n := 134) X 1 dX11_shareOut_133 rfl rfl rfl ?_
                refine gg_11_7 (n := 137) (z := 172) X (by decide) (gsz hsz (by decide)) lay_0 kw_2_238 dX11_shareOut_134 rfl (rf_0_7 IM3447 (gsz hsz (by decide))) (by decide) ?_
                refine g_iload (n := 139) X 6 dX11_shareOut_137 rfl rfl ?_
                refine g_iald2 (n := 140) (v := v3443) X (by decide) (gsz hsz (by decide)) lay_172 (by omega) (by omega) (by decide) dX11_shareOut_139 rfl ((congrFun (congrFun e3448 _) _).trans ((gset_ne (by omega)).trans ((congrFun (congrFun e3445 _) _).trans (gset_eq _ _ _ _)))) ?_
                refine g_i2lE (n := 141) (z := v3443) X dX11_shareOut_140 (g_i2l (by omega)) rfl ?_
                refine g_lsubA (n := 142) X dX11_shareOut_141 rfl (fun v3449 rv3449 xv3449 => ?_)
                clear xv3449
                refine g_lstore (n := 144) (L' := [(9, gV v3449), (12, gV (v2610 * 1)), (0, gA n0 0), (4, gJ 1), (5, gV 6), (7, gV v2610), (11, gJ v2614)]) X dX11_shareOut_142 (by decide) rfl rfl ?_
                refine g_iinc (n := 147) (w := v2614 + 1) (L' := [(11, gJ (v2614 + 1)), (9, gV v3449), (12, gV (v2610 * 1)), (0, gA n0 0), (4, gJ 1), (5, gV 6), (7, gV v2610)]) X 6 dX11_shareOut_144 rfl rfl (by decide) rfl rfl ?_
                refine g_goto (tgt := 78) X dX11_shareOut_147 (by decide) ?_
                refine G.sub (L' := [(0, gA n0 0), (4, gJ 1), (5, gV 6), (7, gV v2610), (9, gV v3449), (11, gJ (v2614 + 1))]) [3, 4, 5, 6, 1, 0] rfl ?_
                exact ih3359 v3449 (v2614 + 1) M3447 (by omega) (by omega) IM3447 CM3447 (gFr.s (gFr.s (gFr.c gFr.rf FM2615 rfl) e3445 (ra_172 v2614).2.2 rfl) e3448 (ra_171 v2614).2.2 rfl) (by omega)
          refine G.sub (L' := [(0, gA n0 0), (4, gJ 1), (5, gV 6), (7, gV v2610), (9, gV v2610), (11, gJ 0)]) [5, 4, 3, 2, 1, 0] rfl ?_
          exact j2616 _ v2610 0 M2 (by omega) (by omega) IM2 CM2 gFr.rf (Nat.lt_succ_self _)
      · refine g_lload_n (n := 18) X 2 dX11_shareOut_17 rfl rfl rfl ?_
        refine g_aload_n (n := 19) X 0 dX11_shareOut_18 rfl rfl rfl ?_
        refine gg_11_5 (n := 22) (z := 170) X (by decide) (gsz hsz (by decide)) lay_0 kw_2_236 dX11_shareOut_19 rfl (rf_0_5 IM2 (gsz hsz (by decide))) (by decide) ?_
        refine g_iload (n := 24) X 3 dX11_shareOut_22 rfl rfl ?_
        obtain ⟨v3450, hv3450, rv3450⟩ := gRd IM2 (by decide) (gsz hsz (by decide)) (ra_170 v5).1
        refine g_lald2 (n := 25) (v := v3450) X (by decide) (gsz hsz (by decide)) lay_170 (by omega) (by omega) (by decide) dX11_shareOut_24 rfl hv3450 ?_
        refine g_laddA (n := 26) X dX11_shareOut_25 rfl (fun v3451 rv3451 xv3451 => ?_)
        clear xv3451
        refine g_lstore_n (n := 27) (L' := [(2, gV v3451), (0, gA n0 0), (1, gJ a), (4, gJ v5)]) X dX11_shareOut_26 rfl (by decide) rfl rfl ?_
        refine g_iinc (n := 30) (w := v5 + 1) (L' := [(4, gJ (v5 + 1)), (2, gV v3451), (0, gA n0 0), (1, gJ a)]) X 3 dX11_shareOut_27 rfl rfl (by decide) rfl rfl ?_
        refine g_goto (tgt := 10) X dX11_shareOut_30 (by decide) ?_
        refine G.sub (L' := [(0, gA n0 0), (1, gJ a), (2, gV v3451), (4, gJ (v5 + 1))]) [2, 3, 1, 0] rfl ?_
        exact ih1735 v3451 (v5 + 1) (by omega) (by omega) (by omega)
  refine G.sub (L' := [(0, gA n0 0), (1, gJ a), (2, gV 0), (4, gJ 0)]) [2, 3, 1, 0] rfl ?_
  exact j7 _ 0 0 (by omega) (by omega) (Nat.lt_succ_self _)
theorem dX11_maybe_0 : decode cX11_maybe 0 = .ok (.aload_n 0, 1) := dc_42 (by decide +kernel)
theorem dX11_maybe_1 : decode cX11_maybe 1 = .ok (.iload_n 1, 1) := dc_27 (by decide +kernel)
theorem dX11_maybe_2 : decode cX11_maybe 2 = .ok (.invokevirtual 82, 3) := dc_182 0 82 (by decide +kernel)
theorem dX11_maybe_5 : decode cX11_maybe 5 = .ok (.ifCond .eq 21, 3) := dc_153 0 21 21 (by decide +kernel)
theorem dX11_maybe_26 : decode cX11_maybe 26 = .ok (.iconst (-1), 1) := dc_2 (by decide +kernel)
theorem dX11_maybe_27 : decode cX11_maybe 27 = .ok (.ireturn, 1) := dc_172 (by decide +kernel)
theorem dX11_maybe_8 : decode cX11_maybe 8 = .ok (.aload_n 0, 1) := dc_42 (by decide +kernel)
theorem dX11_maybe_9 : decode cX11_maybe 9 = .ok (.iload_n 3, 1) := dc_29 (by decide +kernel)
theorem dX11_maybe_10 : decode cX11_maybe 10 = .ok (.invokevirtual 187, 3) := dc_182 0 187 (by decide +kernel)
theorem dX11_maybe_13 : decode cX11_maybe 13 = .ok (.ifCond .eq 13, 3) := dc_153 0 13 13 (by decide +kernel)
theorem dX11_maybe_16 : decode cX11_maybe 16 = .ok (.iload 4, 2) := dc_21 4 (by decide +kernel)
theorem dX11_maybe_18 : decode cX11_maybe 18 = .ok (.iconst 0, 1) := dc_3 (by decide +kernel)
theorem dX11_maybe_19 : decode cX11_maybe 19 = .ok (.iconst 1, 1) := dc_4 (by decide +kernel)
theorem dX11_maybe_20 : decode cX11_maybe 20 = .ok (.invokestatic 62, 3) := dc_184 0 62 (by decide +kernel)
theorem dX11_maybe_23 : decode cX11_maybe 23 = .ok (.ifCond .ne 5, 3) := dc_154 0 5 5 (by decide +kernel)
theorem dX11_maybe_28 : decode cX11_maybe 28 = .ok (.iload_n 2, 1) := dc_28 (by decide +kernel)
theorem dX11_maybe_29 : decode cX11_maybe 29 = .ok (.sipush (-3000), 3) := dc_17 244 72 (-3000) (by decide +kernel)
theorem dX11_maybe_32 : decode cX11_maybe 32 = .ok (.sipush 300, 3) := dc_17 1 44 300 (by decide +kernel)
theorem dX11_maybe_35 : decode cX11_maybe 35 = .ok (.invokestatic 62, 3) := dc_184 0 62 (by decide +kernel)
theorem dX11_maybe_38 : decode cX11_maybe 38 = .ok (.ifCond .ne 6, 3) := dc_154 0 6 6 (by decide +kernel)
theorem dX11_maybe_44 : decode cX11_maybe 44 = .ok (.aload_n 0, 1) := dc_42 (by decide +kernel)
theorem dX11_maybe_45 : decode cX11_maybe 45 = .ok (.getfield 19, 3) := dc_180 0 19 (by decide +kernel)
theorem dX11_maybe_48 : decode cX11_maybe 48 = .ok (.aload_n 0, 1) := dc_42 (by decide +kernel)
theorem dX11_maybe_49 : decode cX11_maybe 49 = .ok (.getfield 10, 3) := dc_180 0 10 (by decide +kernel)
theorem dX11_maybe_52 : decode cX11_maybe 52 = .ok (.iload_n 3, 1) := dc_29 (by decide +kernel)
theorem dX11_maybe_53 : decode cX11_maybe 53 = .ok (.invokevirtual 190, 3) := dc_182 0 190 (by decide +kernel)
theorem dX11_maybe_56 : decode cX11_maybe 56 = .ok (.aload_n 0, 1) := dc_42 (by decide +kernel)
theorem dX11_maybe_57 : decode cX11_maybe 57 = .ok (.getfield 19, 3) := dc_180 0 19 (by decide +kernel)
theorem dX11_maybe_60 : decode cX11_maybe 60 = .ok (.aload_n 0, 1) := dc_42 (by decide +kernel)
theorem dX11_maybe_61 : decode cX11_maybe 61 = .ok (.getfield 10, 3) := dc_180 0 10 (by decide +kernel)
theorem dX11_maybe_64 : decode cX11_maybe 64 = .ok (.iload_n 1, 1) := dc_27 (by decide +kernel)
theorem dX11_maybe_65 : decode cX11_maybe 65 = .ok (.iload_n 2, 1) := dc_28 (by decide +kernel)
theorem dX11_maybe_66 : decode cX11_maybe 66 = .ok (.invokevirtual 202, 3) := dc_182 0 202 (by decide +kernel)
theorem kw_3_172 : (Jvm.Cond.methodLink "ParishUnion" (202 : Nat) ({ cls := "ParishUnion$Bench", name := "tryBothWays", desc := "(LParishUnion$Union;II)V" } : Jvm.MethodName)) ∈ gT := gT_of (tb_3 _ (List.mem_of_getElem? (i := 172) rfl)) rfl
theorem kw_3_175 : (Jvm.Cond.code ({ cls := "ParishUnion$Bench", name := "tryBothWays", desc := "(LParishUnion$Union;II)V" } : Jvm.MethodName) prog_3_method_6_code (8 : Nat) (Option.none : Option Jvm.ClassFile.FieldType)) ∈ gT := gT_of (tb_3 _ (List.mem_of_getElem? (i := 175) rfl)) rfl
theorem okX1_tryBothWays : gQok yX1_tryBothWays cX1_tryBothWays 8 (Option.none : Option Jvm.ClassFile.FieldType) 3 := ⟨kw_3_175, kw_1_11, by decide +kernel, by decide +kernel, by decide +kernel⟩
theorem kw_3_173 : (Jvm.Cond.instanceMethod ({ cls := "ParishUnion$Bench", name := "tryBothWays", desc := "(LParishUnion$Union;II)V" } : Jvm.MethodName)) ∈ gT := gT_of (tb_3 _ (List.mem_of_getElem? (i := 173) rfl)) rfl
theorem kw_3_174 : (Jvm.Cond.selects "ParishUnion$Bench" ({ cls := "ParishUnion$Bench", name := "tryBothWays", desc := "(LParishUnion$Union;II)V" } : Jvm.MethodName) ({ cls := "ParishUnion$Bench", name := "tryBothWays", desc := "(LParishUnion$Union;II)V" } : Jvm.MethodName)) ∈ gT := gT_of (tb_3 _ (List.mem_of_getElem? (i := 174) rfl)) rfl
theorem dX11_maybe_69 : decode cX11_maybe 69 = .ok (.iload 4, 2) := dc_21 4 (by decide +kernel)
theorem dX11_maybe_71 : decode cX11_maybe 71 = .ok (.ifCond .ne 13, 3) := dc_154 0 13 13 (by decide +kernel)
theorem dX11_maybe_84 : decode cX11_maybe 84 = .ok (.aload_n 0, 1) := dc_42 (by decide +kernel)
theorem dX11_maybe_85 : decode cX11_maybe 85 = .ok (.getfield 19, 3) := dc_180 0 19 (by decide +kernel)
theorem dX11_maybe_88 : decode cX11_maybe 88 = .ok (.invokevirtual 209, 3) := dc_182 0 209 (by decide +kernel)
theorem kw_3_181 : (Jvm.Cond.methodLink "ParishUnion" (209 : Nat) ({ cls := "ParishUnion$Bench", name := "bestProof", desc := "()I" } : Jvm.MethodName)) ∈ gT := gT_of (tb_3 _ (List.mem_of_getElem? (i := 181) rfl)) rfl
theorem kw_3_184 : (Jvm.Cond.code ({ cls := "ParishUnion$Bench", name := "bestProof", desc := "()I" } : Jvm.MethodName) prog_3_method_8_code (5 : Nat) (Option.some Jvm.ClassFile.FieldType.int)) ∈ gT := gT_of (tb_3 _ (List.mem_of_getElem? (i := 184) rfl)) rfl
theorem okX1_bestProof : gQok yX1_bestProof cX1_bestProof 5 (Option.some Jvm.ClassFile.FieldType.int) 0 := ⟨kw_3_184, kw_1_11, by decide +kernel, by decide +kernel, by decide +kernel⟩
theorem kw_3_182 : (Jvm.Cond.instanceMethod ({ cls := "ParishUnion$Bench", name := "bestProof", desc := "()I" } : Jvm.MethodName)) ∈ gT := gT_of (tb_3 _ (List.mem_of_getElem? (i := 182) rfl)) rfl
theorem kw_3_183 : (Jvm.Cond.selects "ParishUnion$Bench" ({ cls := "ParishUnion$Bench", name := "bestProof", desc := "()I" } : Jvm.MethodName) ({ cls := "ParishUnion$Bench", name := "bestProof", desc := "()I" } : Jvm.MethodName)) ∈ gT := gT_of (tb_3 _ (List.mem_of_getElem? (i := 183) rfl)) rfl
theorem dX11_maybe_91 : decode cX11_maybe 91 = .ok (.ireturn, 1) := dc_172 (by decide +kernel)
theorem dX11_maybe_74 : decode cX11_maybe 74 = .ok (.aload_n 0, 1) := dc_42 (by decide +kernel)
theorem dX11_maybe_75 : decode cX11_maybe 75 = .ok (.getfield 19, 3) := dc_180 0 19 (by decide +kernel)
theorem dX11_maybe_78 : decode cX11_maybe 78 = .ok (.getfield 206, 3) := dc_180 0 206 (by decide +kernel)
theorem kw_2_187 : (Jvm.Cond.fieldLink "ParishUnion" (206 : Nat) "ParishUnion$Bench" "maybe" "I") ∈ gT := gT_of (tb_2 _ (List.mem_of_getElem? (i := 187) rfl)) rfl
theorem dX11_maybe_81 : decode cX11_maybe 81 = .ok (.goto 10, 3) := dc_167 0 10 10 (by decide +kernel)
theorem dX11_maybe_41 : decode cX11_maybe 41 = .ok (.bipush (-2), 2) := dc_16 254 (-2) (by decide +kernel)
theorem dX11_maybe_43 : decode cX11_maybe 43 = .ok (.ireturn, 1) := dc_172 (by decide +kernel)
abbrev R_X11_maybe : Room := { frames := 6, cells := 0, slots := 0, locals := 167 }
set_option maxRecDepth 100000 in
set_option maxHeartbeats 4000000 in
theorem s_X11_maybe {l : Launch} {n0 : Nat} {D : va_G} {cA : Nat → ClassId} {M : gM} (a : Int) (r_a : -2147483648 ≤ a ∧ a ≤ 2147483647) (b : Int) (r_b : -2147483648 ≤ b ∧ b ≤ 2147483647) (c : Int) (r_c : -2147483648 ≤ c ∧ c ≤ 2147483647) (d : Int) (r_d : -2147483648 ≤ d ∧ d ≤ 2147483647) {sz : Nat} (hsz : 206 ≤ sz) (I : gI sz M) (C : gC sz M)   : Met l yX11_maybe (gWsOf yX11_maybe cX11_maybe 5 (Option.some Jvm.ClassFile.FieldType.int)) R_X11_maybe (gPc n0 D cA [gA n0 0, gJ a, gJ b, gJ c, gJ d] M sz) (gQi n0 D cA sz (fun z M1 => (-2147483648 ≤ z ∧ z ≤ 2147483647) ∧ gI sz M1 ∧ gC sz M1 ∧ gFr 33554432 M M1)) 0 0 (fun q => n0 ≤ q) := by
  refine gMetI [gA n0 0, gJ a, gJ b, gJ c, gJ d] (by decide) (Nat.le_of_ble_eq_true rfl) ⟨rfl, rfl⟩ ?_
  intro p e s m args below meth cd Q X hq
  have X : gCx p s m args meth cd n0 D cA "ParishUnion" cX11_maybe 5 := X
  show G p l e R_X11_maybe s m args below meth cd n0 D cA 5 Q 0 0 M sz 0 [(0, gA n0 0), (1, gJ a), (2, gJ b), (3, gJ c), (4, gJ d)] []
  refine g_aload_n (n := 1) X 0 dX11_maybe_0 rfl rfl rfl ?_
  refine g_iload_n (n := 2) X 1 dX11_maybe_1 rfl rfl rfl ?_
  refine g_callVi (n := 5) (As := [gJ a]) (rest := []) (cs1 := 0) (ss1 := 0) X (s_X11_isPerson a (by omega) hsz I C ) okX11_isPerson kw_3_56 ⟨kw_3_58, kw_0_0⟩ ⟨rfl, rfl⟩ ⟨Nat.le_of_ble_eq_true rfl, Nat.le_of_ble_eq_true rfl⟩ rfl (by decide) (gsz hsz (by decide)) lay_0 rfl rfl (Nat.le_of_ble_eq_true rfl) ⟨Nat.le_of_ble_eq_true rfl, Nat.le_of_ble_eq_true rfl⟩ rfl rfl dX11_maybe_2 rfl (fun v1 M2 P3 => ?_)
  obtain ⟨rfl, rv1, xv1⟩ := P3
  refine g_if_eq (n := 8) (tgt := 26) X dX11_maybe_5 (by decide) (by omega) rfl (fun c4 => ?_) (fun c4 => ?_)
  · refine g_iconst (n := 27) X dX11_maybe_26 rfl ?_
    exact hq _ _ _ _ dX11_maybe_27 ⟨by omega, I, C, gFr.rf⟩
  · refine g_aload_n (n := 9) X 0 dX11_maybe_8 rfl rfl rfl ?_
    refine g_iload_n (n := 10) X 3 dX11_maybe_9 rfl rfl rfl ?_
    refine g_callVi (n := 13) (As := [gJ c]) (rest := []) (cs1 := 0) (ss1 := 0) X (s_X11_isEntryCount c (by omega) hsz I C ) okX11_isEntryCount kw_3_129 ⟨kw_3_131, kw_0_2⟩ ⟨rfl, rfl⟩ ⟨Nat.le_of_ble_eq_true rfl, Nat.le_of_ble_eq_true rfl⟩ rfl (by decide) (gsz hsz (by decide)) lay_0 rfl rfl (Nat.le_of_ble_eq_true rfl) ⟨Nat.le_of_ble_eq_true rfl, Nat.le_of_ble_eq_true rfl⟩ rfl rfl dX11_maybe_10 rfl (fun v5 M6 P7 => ?_)
    obtain ⟨rfl, rv5, xv5⟩ := P7
    refine g_if_eq (n := 16) (tgt := 26) X dX11_maybe_13 (by decide) (by omega) rfl (fun c8 => ?_) (fun c8 => ?_)
    · refine g_iconst (n := 27) X dX11_maybe_26 rfl ?_
      exact hq _ _ _ _ dX11_maybe_27 ⟨by omega, I, C, gFr.rf⟩
    · refine g_iload (n := 18) X 4 dX11_maybe_16 rfl rfl ?_
      refine g_iconst (n := 19) X dX11_maybe_18 rfl ?_
      refine g_iconst (n := 20) X dX11_maybe_19 rfl ?_
      refine g_callSi (n := 23) (As := [gJ d, gJ 0, gJ 1]) (rest := []) (cs1 := 0) (ss1 := 0) X (s_X11_within d (by omega) 0 (by omega) 1 (by omega) hsz I C ) okX11_within kw_3_29 kw_3_30 ⟨rfl, rfl⟩ ⟨Nat.le_of_ble_eq_true rfl, Nat.le_of_ble_eq_true rfl⟩ rfl rfl (Nat.le_of_ble_eq_true rfl) ⟨Nat.le_of_ble_eq_true rfl, Nat.le_of_ble_eq_true rfl⟩ rfl rfl dX11_maybe_20 rfl (fun v9 M10 P11 => ?_)
      obtain ⟨rfl, rv9, xv9⟩ := P11
      refine g_if_ne (n := 26) (tgt := 28) X dX11_maybe_23 (by decide) (by omega) rfl (fun c12 => ?_) (fun c12 => ?_)
      · refine g_iload_n (n := 29) X 2 dX11_maybe_28 rfl rfl rfl ?_
        refine g_sipush (n := 32) X dX11_maybe_29 (by decide +kernel) rfl ?_
        refine g_sipush (n := 35) X dX11_maybe_32 (by decide +kernel) rfl ?_
        refine g_callSi (n := 38) (As := [gJ b, gJ (-3000), gJ 300]) (rest := []) (cs1 := 0) (ss1 := 0) X (s_X11_within b (by omega) (-3000) (by omega) 300 (by omega) hsz I C ) okX11_within kw_3_29 kw_3_30 ⟨rfl, rfl⟩ ⟨Nat.le_of_ble_eq_true rfl, Nat.le_of_ble_eq_true rfl⟩ rfl rfl (Nat.le_of_ble_eq_true rfl) ⟨Nat.le_of_ble_eq_true rfl, Nat.le_of_ble_eq_true rfl⟩ rfl rfl dX11_maybe_35 rfl (fun v13 M14 P15 => ?_)
        obtain ⟨rfl, rv13, xv13⟩ := P15
        refine g_if_ne (n := 41) (tgt := 44) X dX11_maybe_38 (by decide) (by omega) rfl (fun c16 => ?_) (fun c16 => ?_)
        · refine g_aload_n (n := 45) X 0 dX11_maybe_44 rfl rfl rfl ?_
          refine gg_11_1 (n := 48) (z := 153) X (by decide) (gsz hsz (by decide)) lay_0 kw_2_232 dX11_maybe_45 rfl (rf_0_1 I (gsz hsz (by decide))) (by decide) ?_
          refine g_aload_n (n := 49) X 0 dX11_maybe_48 rfl rfl rfl ?_
          refine gg_11_0 (n := 52) (z := 1) X (by decide) (gsz hsz (by decide)) lay_0 kw_2_231 dX11_maybe_49 rfl (rf_0_0 I (gsz hsz (by decide))) (by decide) ?_
          refine g_iload_n (n := 53) X 3 dX11_maybe_52 rfl rfl rfl ?_
          refine g_callVv (n := 56) (As := [gA n0 1, gJ c]) (rest := []) (cs1 := 0) (ss1 := 0) X (s_X1_prepare c (by omega) hsz I C ) okX1_prepare kw_3_133 ⟨kw_3_134, kw_3_135⟩ ⟨rfl, rfl⟩ ⟨Nat.le_of_ble_eq_true rfl, Nat.le_of_ble_eq_true rfl⟩ rfl (by decide) (gsz hsz (by decide)) lay_153 rfl rfl (Nat.le_of_ble_eq_true rfl) ⟨Nat.le_of_ble_eq_true rfl, Nat.le_of_ble_eq_true rfl⟩ rfl rfl dX11_maybe_53 rfl (fun M18 P19 => ?_)
          obtain ⟨IM18, CM18, FM18⟩ := P19
          refine g_aload_n (n := 57) X 0 dX11_maybe_56 rfl rfl rfl ?_
          refine gg_11_1 (n := 60) (z := 153) X (by decide) (gsz hsz (by decide)) lay_0 kw_2_232 dX11_maybe_57 rfl (rf_0_1 IM18 (gsz hsz (by decide))) (by decide) ?_
          refine g_aload_n (n := 61) X 0 dX11_maybe_60 rfl rfl rfl ?_
          refine gg_11_0 (n := 64) (z := 1) X (by decide) (gsz hsz (by decide)) lay_0 kw_2_231 dX11_maybe_61 rfl (rf_0_0 IM18 (gsz hsz (by decide))) (by decide) ?_
          refine g_iload_n (n := 65) X 1 dX11_maybe_64 rfl rfl rfl ?_
          refine g_iload_n (n := 66) X 2 dX11_maybe_65 rfl rfl rfl ?_
          refine g_callVv (n := 69) (As := [gA n0 1, gJ a, gJ b]) (rest := []) (cs1 := 0) (ss1 := 0) X (s_X1_tryBothWays a (by omega) b (by omega) hsz IM18 CM18 ) okX1_tryBothWays kw_3_172 ⟨kw_3_173, kw_3_174⟩ ⟨rfl, rfl⟩ ⟨Nat.le_of_ble_eq_true rfl, Nat.le_of_ble_eq_true rfl⟩ rfl (by decide) (gsz hsz (by decide)) lay_153 rfl rfl (Nat.le_of_ble_eq_true rfl) ⟨Nat.le_of_ble_eq_true rfl, Nat.le_of_ble_eq_true rfl⟩ rfl rfl dX11_maybe_66 rfl (fun M21 P22 => ?_)
          obtain ⟨IM21, CM21, FM21⟩ := P22
          refine g_iload (n := 71) X 4 dX11_maybe_69 rfl rfl ?_
          refine g_if_ne (n := 74) (tgt := 84) X dX11_maybe_71 (by decide) (by omega) rfl (fun c23 => ?_) (fun c23 => ?_)
          · refine g_aload_n (n := 85) X 0 dX11_maybe_84 rfl rfl rfl ?_
            refine gg_11_1 (n := 88) (z := 153) X (by decide) (gsz hsz (by decide)) lay_0 kw_2_232 dX11_maybe_85 rfl (rf_0_1 IM21 (gsz hsz (by decide))) (by decide) ?_
            refine g_callVi (n := 91) (As := []) (rest := []) (cs1 := 0) (ss1 := 0) X (s_X1_bestProof  hsz IM21 CM21 ) okX1_bestProof kw_3_181 ⟨kw_3_182, kw_3_183⟩ ⟨rfl, rfl⟩ ⟨Nat.le_of_ble_eq_true rfl, Nat.le_of_ble_eq_true rfl⟩ rfl (by decide) (gsz hsz (by decide)) lay_153 rfl rfl (Nat.le_of_ble_eq_true rfl) ⟨Nat.le_of_ble_eq_true rfl, Nat.le_of_ble_eq_true rfl⟩ rfl rfl dX11_maybe_88 rfl (fun v24 M25 P26 => ?_)
            obtain ⟨rfl, rv24⟩ := P26
            exact hq _ _ _ _ dX11_maybe_91 ⟨by omega, IM21, CM21, (gFr.c (gFr.c gFr.rf FM18 rfl) FM21 rfl)⟩
          · refine g_aload_n (n := 75) X 0 dX11_maybe_74 rfl rfl rfl ?_
            refine gg_11_1 (n := 78) (z := 153) X (by decide) (gsz hsz (by decide)) lay_0 kw_2_232 dX11_maybe_75 rfl (rf_0_1 IM21 (gsz hsz (by decide))) (by decide) ?_
            obtain ⟨v27, hv27, rv27⟩ := gRd IM21 (by decide) (gsz hsz (by decide)) rc_153_7.1
            refine gg_1_7 (n := 81) (z := v27) X (by decide) (gsz hsz (by decide)) lay_153 kw_2_187 dX11_maybe_78 rfl hv27 ?_
            refine g_goto (tgt := 91) X dX11_maybe_81 (by decide) ?_
            exact hq _ _ _ _ dX11_maybe_91 ⟨by omega, IM21, CM21, (gFr.c (gFr.c gFr.rf FM18 rfl) FM21 rfl)⟩
        · refine g_bipush (n := 43) X dX11_maybe_41 (by decide +kernel) rfl ?_
          exact hq _ _ _ _ dX11_maybe_43 ⟨by omega, I, C, gFr.rf⟩
      · refine g_iconst (n := 27) X dX11_maybe_26 rfl ?_
        exact hq _ _ _ _ dX11_maybe_27 ⟨by omega, I, C, gFr.rf⟩
theorem dX11_share_0 : decode cX11_share 0 = .ok (.iload_n 1, 1) := dc_27 (by decide +kernel)
theorem dX11_share_1 : decode cX11_share 1 = .ok (.invokestatic 58, 3) := dc_184 0 58 (by decide +kernel)
theorem dX11_share_4 : decode cX11_share 4 = .ok (.ifCond .eq 19, 3) := dc_153 0 19 19 (by decide +kernel)
theorem dX11_share_23 : decode cX11_share 23 = .ok (.iconst (-1), 1) := dc_2 (by decide +kernel)
theorem dX11_share_24 : decode cX11_share 24 = .ok (.ireturn, 1) := dc_172 (by decide +kernel)
theorem dX11_share_7 : decode cX11_share 7 = .ok (.aload_n 0, 1) := dc_42 (by decide +kernel)
theorem dX11_share_8 : decode cX11_share 8 = .ok (.iload_n 2, 1) := dc_28 (by decide +kernel)
theorem dX11_share_9 : decode cX11_share 9 = .ok (.invokevirtual 301, 3) := dc_182 1 45 (by decide +kernel)
theorem dX11_share_12 : decode cX11_share 12 = .ok (.ifCond .eq 11, 3) := dc_153 0 11 11 (by decide +kernel)
theorem dX11_share_15 : decode cX11_share 15 = .ok (.aload_n 0, 1) := dc_42 (by decide +kernel)
theorem dX11_share_16 : decode cX11_share 16 = .ok (.iload_n 3, 1) := dc_29 (by decide +kernel)
theorem dX11_share_17 : decode cX11_share 17 = .ok (.invokevirtual 187, 3) := dc_182 0 187 (by decide +kernel)
theorem dX11_share_20 : decode cX11_share 20 = .ok (.ifCond .ne 5, 3) := dc_154 0 5 5 (by decide +kernel)
theorem dX11_share_25 : decode cX11_share 25 = .ok (.aload_n 0, 1) := dc_42 (by decide +kernel)
theorem dX11_share_26 : decode cX11_share 26 = .ok (.getfield 19, 3) := dc_180 0 19 (by decide +kernel)
theorem dX11_share_29 : decode cX11_share 29 = .ok (.aload_n 0, 1) := dc_42 (by decide +kernel)
theorem dX11_share_30 : decode cX11_share 30 = .ok (.getfield 10, 3) := dc_180 0 10 (by decide +kernel)
theorem dX11_share_33 : decode cX11_share 33 = .ok (.iload_n 3, 1) := dc_29 (by decide +kernel)
theorem dX11_share_34 : decode cX11_share 34 = .ok (.invokevirtual 190, 3) := dc_182 0 190 (by decide +kernel)
theorem dX11_share_37 : decode cX11_share 37 = .ok (.aload_n 0, 1) := dc_42 (by decide +kernel)
theorem dX11_share_38 : decode cX11_share 38 = .ok (.iload_n 2, 1) := dc_28 (by decide +kernel)
theorem dX11_share_39 : decode cX11_share 39 = .ok (.invokevirtual 331, 3) := dc_182 1 75 (by decide +kernel)
theorem kw_5_55 : (Jvm.Cond.methodLink "ParishUnion" (331 : Nat) ({ cls := "ParishUnion", name := "shareOut", desc := "(I)V" } : Jvm.MethodName)) ∈ gT := gT_of (tb_5 _ (List.mem_of_getElem? (i := 55) rfl)) rfl
theorem kw_5_58 : (Jvm.Cond.code ({ cls := "ParishUnion", name := "shareOut", desc := "(I)V" } : Jvm.MethodName) prog_1_method_60_code (14 : Nat) (Option.none : Option Jvm.ClassFile.FieldType)) ∈ gT := gT_of (tb_5 _ (List.mem_of_getElem? (i := 58) rfl)) rfl
theorem okX11_shareOut : gQok yX11_shareOut cX11_shareOut 14 (Option.none : Option Jvm.ClassFile.FieldType) 1 := ⟨kw_5_58, kw_1_1, by decide +kernel, by decide +kernel, by decide +kernel⟩
theorem kw_5_57 : (Jvm.Cond.instanceMethod ({ cls := "ParishUnion", name := "shareOut", desc := "(I)V" } : Jvm.MethodName)) ∈ gT := gT_of (tb_5 _ (List.mem_of_getElem? (i := 57) rfl)) rfl
theorem kw_0_30 : (Jvm.Cond.selects "ParishUnion" ({ cls := "ParishUnion", name := "shareOut", desc := "(I)V" } : Jvm.MethodName) ({ cls := "ParishUnion", name := "shareOut", desc := "(I)V" } : Jvm.MethodName)) ∈ gT := gT_of (tb_0 _ (List.mem_of_getElem? (i := 30) rfl)) rfl
theorem dX11_share_42 : decode cX11_share 42 = .ok (.aload_n 0, 1) := dc_42 (by decide +kernel)
theorem dX11_share_43 : decode cX11_share 43 = .ok (.getfield 50, 3) := dc_180 0 50 (by decide +kernel)
theorem dX11_share_46 : decode cX11_share 46 = .ok (.iload_n 1, 1) := dc_27 (by decide +kernel)
theorem dX11_share_47 : decode cX11_share 47 = .ok (.iaload, 1) := dc_46 (by decide +kernel)
theorem dX11_share_48 : decode cX11_share 48 = .ok (.ireturn, 1) := dc_172 (by decide +kernel)
abbrev R_X11_share : Room := { frames := 6, cells := 0, slots := 0, locals := 167 }
set_option maxRecDepth 100000 in
set_option maxHeartbeats 4000000 in
theorem s_X11_share {l : Launch} {n0 : Nat} {D : va_G} {cA : Nat → ClassId} {M : gM} (a : Int) (r_a : -2147483648 ≤ a ∧ a ≤ 2147483647) (b : Int) (r_b : -2147483648 ≤ b ∧ b ≤ 2147483647) (c : Int) (r_c : -2147483648 ≤ c ∧ c ≤ 2147483647) {sz : Nat} (hsz : 206 ≤ sz) (I : gI sz M) (C : gC sz M)   : Met l yX11_share (gWsOf yX11_share cX11_share 4 (Option.some Jvm.ClassFile.FieldType.int)) R_X11_share (gPc n0 D cA [gA n0 0, gJ a, gJ b, gJ c] M sz) (gQi n0 D cA sz (fun z M1 => (-2147483648 ≤ z ∧ z ≤ 2147483647) ∧ gI sz M1 ∧ gC sz M1 ∧ gFr 4328521728 M M1)) 0 0 (fun q => n0 ≤ q) := by
  refine gMetI [gA n0 0, gJ a, gJ b, gJ c] (by decide) (Nat.le_of_ble_eq_true rfl) ⟨rfl, rfl⟩ ?_
  intro p e s m args below meth cd Q X hq
  have X : gCx p s m args meth cd n0 D cA "ParishUnion" cX11_share 4 := X
  show G p l e R_X11_share s m args below meth cd n0 D cA 4 Q 0 0 M sz 0 [(0, gA n0 0), (1, gJ a), (2, gJ b), (3, gJ c)] []
  refine g_iload_n (n := 1) X 1 dX11_share_0 rfl rfl rfl ?_
  refine g_callSi (n := 4) (As := [gJ a]) (rest := []) (cs1 := 0) (ss1 := 0) X (s_X11_isParish a (by omega) hsz I C ) okX11_isParish kw_3_26 kw_3_27 ⟨rfl, rfl⟩ ⟨Nat.le_of_ble_eq_true rfl, Nat.le_of_ble_eq_true rfl⟩ rfl rfl (Nat.le_of_ble_eq_true rfl) ⟨Nat.le_of_ble_eq_true rfl, Nat.le_of_ble_eq_true rfl⟩ rfl rfl dX11_share_1 rfl (fun v1 M2 P3 => ?_)
  obtain ⟨rfl, rv1, xv1⟩ := P3
  refine g_if_eq (n := 7) (tgt := 23) X dX11_share_4 (by decide) (by omega) rfl (fun c4 => ?_) (fun c4 => ?_)
  · refine g_iconst (n := 24) X dX11_share_23 rfl ?_
    exact hq _ _ _ _ dX11_share_24 ⟨by omega, I, C, gFr.rf⟩
  · refine g_aload_n (n := 8) X 0 dX11_share_7 rfl rfl rfl ?_
    refine g_iload_n (n := 9) X 2 dX11_share_8 rfl rfl rfl ?_
    refine g_callVi (n := 12) (As := [gJ b]) (rest := []) (cs1 := 0) (ss1 := 0) X (s_X11_isGone b (by omega) hsz I C ) okX11_isGone kw_5_11 ⟨kw_5_13, kw_0_28⟩ ⟨rfl, rfl⟩ ⟨Nat.le_of_ble_eq_true rfl, Nat.le_of_ble_eq_true rfl⟩ rfl (by decide) (gsz hsz (by decide)) lay_0 rfl rfl (Nat.le_of_ble_eq_true rfl) ⟨Nat.le_of_ble_eq_true rfl, Nat.le_of_ble_eq_true rfl⟩ rfl rfl dX11_share_9 rfl (fun v5 M6 P7 => ?_)
    obtain ⟨rfl, rv5, xv5⟩ := P7
    refine g_if_eq (n := 15) (tgt := 23) X dX11_share_12 (by decide) (by omega) rfl (fun c8 => ?_) (fun c8 => ?_)
    · refine g_iconst (n := 24) X dX11_share_23 rfl ?_
      exact hq _ _ _ _ dX11_share_24 ⟨by omega, I, C, gFr.rf⟩
    · refine g_aload_n (n := 16) X 0 dX11_share_15 rfl rfl rfl ?_
      refine g_iload_n (n := 17) X 3 dX11_share_16 rfl rfl rfl ?_
      refine g_callVi (n := 20) (As := [gJ c]) (rest := []) (cs1 := 0) (ss1 := 0) X (s_X11_isEntryCount c (by omega) hsz I C ) okX11_isEntryCount kw_3_129 ⟨kw_3_131, kw_0_2⟩ ⟨rfl, rfl⟩ ⟨Nat.le_of_ble_eq_true rfl, Nat.le_of_ble_eq_true rfl⟩ rfl (by decide) (gsz hsz (by decide)) lay_0 rfl rfl (Nat.le_of_ble_eq_true rfl) ⟨Nat.le_of_ble_eq_true rfl, Nat.le_of_ble_eq_true rfl⟩ rfl rfl dX11_share_17 rfl (fun v9 M10 P11 => ?_)
      obtain ⟨rfl, rv9, xv9⟩ := P11
      refine g_if_ne (n := 23) (tgt := 25) X dX11_share_20 (by decide) (by omega) rfl (fun c12 => ?_) (fun c12 => ?_)
      · refine g_aload_n (n := 26) X 0 dX11_share_25 rfl rfl rfl ?_
        refine gg_11_1 (n := 29) (z := 153) X (by decide) (gsz hsz (by decide)) lay_0 kw_2_232 dX11_share_26 rfl (rf_0_1 I (gsz hsz (by decide))) (by decide) ?_
        refine g_aload_n (n := 30) X 0 dX11_share_29 rfl rfl rfl ?_
        refine gg_11_0 (n := 33) (z := 1) X (by decide) (gsz hsz (by decide)) lay_0 kw_2_231 dX11_share_30 rfl (rf_0_0 I (gsz hsz (by decide))) (by decide) ?_
        refine g_iload_n (n := 34) X 3 dX11_share_33 rfl rfl rfl ?_
        refine g_callVv (n := 37) (As := [gA n0 1, gJ c]) (rest := []) (cs1 := 0) (ss1 := 0) X (s_X1_prepare c (by omega) hsz I C ) okX1_prepare kw_3_133 ⟨kw_3_134, kw_3_135⟩ ⟨rfl, rfl⟩ ⟨Nat.le_of_ble_eq_true rfl, Nat.le_of_ble_eq_true rfl⟩ rfl (by decide) (gsz hsz (by decide)) lay_153 rfl rfl (Nat.le_of_ble_eq_true rfl) ⟨Nat.le_of_ble_eq_true rfl, Nat.le_of_ble_eq_true rfl⟩ rfl rfl dX11_share_34 rfl (fun M14 P15 => ?_)
        obtain ⟨IM14, CM14, FM14⟩ := P15
        refine g_aload_n (n := 38) X 0 dX11_share_37 rfl rfl rfl ?_
        refine g_iload_n (n := 39) X 2 dX11_share_38 rfl rfl rfl ?_
        refine g_callVv (n := 42) (As := [gJ b]) (rest := []) (cs1 := 0) (ss1 := 0) X (s_X11_shareOut b (by omega) hsz IM14 CM14 ) okX11_shareOut kw_5_55 ⟨kw_5_57, kw_0_30⟩ ⟨rfl, rfl⟩ ⟨Nat.le_of_ble_eq_true rfl, Nat.le_of_ble_eq_true rfl⟩ rfl (by decide) (gsz hsz (by decide)) lay_0 rfl rfl (Nat.le_of_ble_eq_true rfl) ⟨Nat.le_of_ble_eq_true rfl, Nat.le_of_ble_eq_true rfl⟩ rfl rfl dX11_share_39 rfl (fun M17 P18 => ?_)
        obtain ⟨IM17, CM17, FM17⟩ := P18
        refine g_aload_n (n := 43) X 0 dX11_share_42 rfl rfl rfl ?_
        refine gg_11_7 (n := 46) (z := 172) X (by decide) (gsz hsz (by decide)) lay_0 kw_2_238 dX11_share_43 rfl (rf_0_7 IM17 (gsz hsz (by decide))) (by decide) ?_
        refine g_iload_n (n := 47) X 1 dX11_share_46 rfl rfl rfl ?_
        obtain ⟨v19, hv19, rv19⟩ := gRd IM17 (by decide) (gsz hsz (by decide)) (ra_172 a).1
        refine g_iald2 (n := 48) (v := v19) X (by decide) (gsz hsz (by decide)) lay_172 (by omega) (by omega) (by decide) dX11_share_47 rfl hv19 ?_
        exact hq _ _ _ _ dX11_share_48 ⟨by omega, IM17, CM17, (gFr.c (gFr.c gFr.rf FM14 rfl) FM17 rfl)⟩
      · refine g_iconst (n := 24) X dX11_share_23 rfl ?_
        exact hq _ _ _ _ dX11_share_24 ⟨by omega, I, C, gFr.rf⟩
theorem dX11_sink_0 : decode cX11_sink 0 = .ok (.aload_n 0, 1) := dc_42 (by decide +kernel)
theorem dX11_sink_1 : decode cX11_sink 1 = .ok (.iload_n 1, 1) := dc_27 (by decide +kernel)
theorem dX11_sink_2 : decode cX11_sink 2 = .ok (.invokevirtual 301, 3) := dc_182 1 45 (by decide +kernel)
theorem dX11_sink_5 : decode cX11_sink 5 = .ok (.ifCond .eq 19, 3) := dc_153 0 19 19 (by decide +kernel)
theorem dX11_sink_24 : decode cX11_sink 24 = .ok (.iconst (-1), 1) := dc_2 (by decide +kernel)
theorem dX11_sink_25 : decode cX11_sink 25 = .ok (.ireturn, 1) := dc_172 (by decide +kernel)
theorem dX11_sink_8 : decode cX11_sink 8 = .ok (.aload_n 0, 1) := dc_42 (by decide +kernel)
theorem dX11_sink_9 : decode cX11_sink 9 = .ok (.iload_n 2, 1) := dc_28 (by decide +kernel)
theorem dX11_sink_10 : decode cX11_sink 10 = .ok (.invokevirtual 301, 3) := dc_182 1 45 (by decide +kernel)
theorem dX11_sink_13 : decode cX11_sink 13 = .ok (.ifCond .eq 11, 3) := dc_153 0 11 11 (by decide +kernel)
theorem dX11_sink_16 : decode cX11_sink 16 = .ok (.aload_n 0, 1) := dc_42 (by decide +kernel)
theorem dX11_sink_17 : decode cX11_sink 17 = .ok (.iload_n 3, 1) := dc_29 (by decide +kernel)
theorem dX11_sink_18 : decode cX11_sink 18 = .ok (.invokevirtual 187, 3) := dc_182 0 187 (by decide +kernel)
theorem dX11_sink_21 : decode cX11_sink 21 = .ok (.ifCond .ne 5, 3) := dc_154 0 5 5 (by decide +kernel)
theorem dX11_sink_26 : decode cX11_sink 26 = .ok (.iload_n 1, 1) := dc_27 (by decide +kernel)
theorem dX11_sink_27 : decode cX11_sink 27 = .ok (.iload_n 2, 1) := dc_28 (by decide +kernel)
theorem dX11_sink_28 : decode cX11_sink 28 = .ok (.if_icmp .le 6, 3) := dc_164 0 6 6 (by decide +kernel)
theorem dX11_sink_34 : decode cX11_sink 34 = .ok (.aload_n 0, 1) := dc_42 (by decide +kernel)
theorem dX11_sink_35 : decode cX11_sink 35 = .ok (.getfield 19, 3) := dc_180 0 19 (by decide +kernel)
theorem dX11_sink_38 : decode cX11_sink 38 = .ok (.aload_n 0, 1) := dc_42 (by decide +kernel)
theorem dX11_sink_39 : decode cX11_sink 39 = .ok (.getfield 10, 3) := dc_180 0 10 (by decide +kernel)
theorem dX11_sink_42 : decode cX11_sink 42 = .ok (.iload_n 3, 1) := dc_29 (by decide +kernel)
theorem dX11_sink_43 : decode cX11_sink 43 = .ok (.invokevirtual 190, 3) := dc_182 0 190 (by decide +kernel)
theorem dX11_sink_46 : decode cX11_sink 46 = .ok (.iconst 0, 1) := dc_3 (by decide +kernel)
theorem dX11_sink_47 : decode cX11_sink 47 = .ok (.istore 4, 2) := dc_54 4 (by decide +kernel)
theorem dX11_sink_49 : decode cX11_sink 49 = .ok (.iload 4, 2) := dc_21 4 (by decide +kernel)
theorem dX11_sink_51 : decode cX11_sink 51 = .ok (.bipush 6, 2) := dc_16 6 6 (by decide +kernel)
theorem dX11_sink_53 : decode cX11_sink 53 = .ok (.if_icmp .ge 17, 3) := dc_162 0 17 17 (by decide +kernel)
theorem dX11_sink_56 : decode cX11_sink 56 = .ok (.aload_n 0, 1) := dc_42 (by decide +kernel)
theorem dX11_sink_57 : decode cX11_sink 57 = .ok (.getfield 54, 3) := dc_180 0 54 (by decide +kernel)
theorem kw_2_239 : (Jvm.Cond.fieldLink "ParishUnion" (54 : Nat) "ParishUnion" "burdens" "[J") ∈ gT := gT_of (tb_2 _ (List.mem_of_getElem? (i := 239) rfl)) rfl
theorem rf_0_8 {sz : Nat} {M : gM} (I : gI sz M) (h : (0 : Int) < (sz : Int)) : M 0 8 = 173 + 1 := gI.rf I (by decide) h (by decide +kernel)
theorem dX11_sink_60 : decode cX11_sink 60 = .ok (.iload 4, 2) := dc_21 4 (by decide +kernel)
theorem dX11_sink_62 : decode cX11_sink 62 = .ok (.lconst 0, 1) := dc_9 (by decide +kernel)
theorem dX11_sink_63 : decode cX11_sink 63 = .ok (.lastore, 1) := dc_80 (by decide +kernel)
theorem ra_173 (k : Int) : gRg 173 k = (-9223372036854775808, 9223372036854775807) ∧ gCr 173 k = false ∧ gG 173 k = 32 := ⟨rfl, rfl, rfl⟩
theorem dX11_sink_64 : decode cX11_sink 64 = .ok (.iinc 4 1, 3) := dc_132 4 1 1 (by decide +kernel)
theorem dX11_sink_67 : decode cX11_sink 67 = .ok (.goto (-18), 3) := dc_167 255 238 (-18) (by decide +kernel)
theorem dX11_sink_70 : decode cX11_sink 70 = .ok (.iload_n 1, 1) := dc_27 (by decide +kernel)
theorem dX11_sink_71 : decode cX11_sink 71 = .ok (.istore 4, 2) := dc_54 4 (by decide +kernel)
theorem dX11_sink_73 : decode cX11_sink 73 = .ok (.iload 4, 2) := dc_21 4 (by decide +kernel)
theorem dX11_sink_75 : decode cX11_sink 75 = .ok (.iload_n 2, 1) := dc_28 (by decide +kernel)
theorem dX11_sink_76 : decode cX11_sink 76 = .ok (.if_icmp .gt 49, 3) := dc_163 0 49 49 (by decide +kernel)
theorem dX11_sink_125 : decode cX11_sink 125 = .ok (.iconst 0, 1) := dc_3 (by decide +kernel)
theorem dX11_sink_126 : decode cX11_sink 126 = .ok (.istore 4, 2) := dc_54 4 (by decide +kernel)
theorem dX11_sink_128 : decode cX11_sink 128 = .ok (.iload 4, 2) := dc_21 4 (by decide +kernel)
theorem dX11_sink_130 : decode cX11_sink 130 = .ok (.bipush 6, 2) := dc_16 6 6 (by decide +kernel)
theorem dX11_sink_132 : decode cX11_sink 132 = .ok (.if_icmp .ge 37, 3) := dc_162 0 37 37 (by decide +kernel)
theorem dX11_sink_135 : decode cX11_sink 135 = .ok (.aload_n 0, 1) := dc_42 (by decide +kernel)
theorem dX11_sink_136 : decode cX11_sink 136 = .ok (.getfield 54, 3) := dc_180 0 54 (by decide +kernel)
theorem dX11_sink_139 : decode cX11_sink 139 = .ok (.iload 4, 2) := dc_21 4 (by decide +kernel)
theorem dX11_sink_141 : decode cX11_sink 141 = .ok (.laload, 1) := dc_47 (by decide +kernel)
theorem dX11_sink_142 : decode cX11_sink 142 = .ok (.aload_n 0, 1) := dc_42 (by decide +kernel)
theorem dX11_sink_143 : decode cX11_sink 143 = .ok (.getfield 10, 3) := dc_180 0 10 (by decide +kernel)
theorem dX11_sink_146 : decode cX11_sink 146 = .ok (.getfield 66, 3) := dc_180 0 66 (by decide +kernel)
theorem dX11_sink_149 : decode cX11_sink 149 = .ok (.getfield 70, 3) := dc_180 0 70 (by decide +kernel)
theorem dX11_sink_152 : decode cX11_sink 152 = .ok (.iload 4, 2) := dc_21 4 (by decide +kernel)
theorem dX11_sink_154 : decode cX11_sink 154 = .ok (.iaload, 1) := dc_46 (by decide +kernel)
theorem dX11_sink_155 : decode cX11_sink 155 = .ok (.i2l, 1) := dc_133 (by decide +kernel)
theorem dX11_sink_156 : decode cX11_sink 156 = .ok (.lcmp, 1) := dc_148 (by decide +kernel)
theorem dX11_sink_157 : decode cX11_sink 157 = .ok (.ifCond .le 6, 3) := dc_158 0 6 6 (by decide +kernel)
theorem dX11_sink_163 : decode cX11_sink 163 = .ok (.iinc 4 1, 3) := dc_132 4 1 1 (by decide +kernel)
theorem dX11_sink_166 : decode cX11_sink 166 = .ok (.goto (-38), 3) := dc_167 255 218 (-38) (by decide +kernel)
theorem dX11_sink_160 : decode cX11_sink 160 = .ok (.iload 4, 2) := dc_21 4 (by decide +kernel)
theorem dX11_sink_162 : decode cX11_sink 162 = .ok (.ireturn, 1) := dc_172 (by decide +kernel)
theorem dX11_sink_169 : decode cX11_sink 169 = .ok (.bipush (-5), 2) := dc_16 251 (-5) (by decide +kernel)
theorem dX11_sink_171 : decode cX11_sink 171 = .ok (.ireturn, 1) := dc_172 (by decide +kernel)
theorem dX11_sink_79 : decode cX11_sink 79 = .ok (.aload_n 0, 1) := dc_42 (by decide +kernel)
theorem dX11_sink_80 : decode cX11_sink 80 = .ok (.iload 4, 2) := dc_21 4 (by decide +kernel)
theorem dX11_sink_82 : decode cX11_sink 82 = .ok (.invokevirtual 331, 3) := dc_182 1 75 (by decide +kernel)
theorem dX11_sink_85 : decode cX11_sink 85 = .ok (.iconst 0, 1) := dc_3 (by decide +kernel)
theorem dX11_sink_86 : decode cX11_sink 86 = .ok (.istore 5, 2) := dc_54 5 (by decide +kernel)
theorem dX11_sink_88 : decode cX11_sink 88 = .ok (.iload 5, 2) := dc_21 5 (by decide +kernel)
theorem dX11_sink_90 : decode cX11_sink 90 = .ok (.bipush 6, 2) := dc_16 6 6 (by decide +kernel)
theorem dX11_sink_92 : decode cX11_sink 92 = .ok (.if_icmp .ge 27, 3) := dc_162 0 27 27 (by decide +kernel)
theorem dX11_sink_95 : decode cX11_sink 95 = .ok (.aload_n 0, 1) := dc_42 (by decide +kernel)
theorem dX11_sink_96 : decode cX11_sink 96 = .ok (.getfield 54, 3) := dc_180 0 54 (by decide +kernel)
theorem dX11_sink_99 : decode cX11_sink 99 = .ok (.iload 5, 2) := dc_21 5 (by decide +kernel)
theorem dX11_sink_101 : decode cX11_sink 101 = .ok (.dup2, 1) := dc_92 (by decide +kernel)
theorem dX11_sink_102 : decode cX11_sink 102 = .ok (.laload, 1) := dc_47 (by decide +kernel)
theorem dX11_sink_103 : decode cX11_sink 103 = .ok (.aload_n 0, 1) := dc_42 (by decide +kernel)
theorem dX11_sink_104 : decode cX11_sink 104 = .ok (.getfield 50, 3) := dc_180 0 50 (by decide +kernel)
theorem dX11_sink_107 : decode cX11_sink 107 = .ok (.iload 5, 2) := dc_21 5 (by decide +kernel)
theorem dX11_sink_109 : decode cX11_sink 109 = .ok (.iaload, 1) := dc_46 (by decide +kernel)
theorem dX11_sink_110 : decode cX11_sink 110 = .ok (.i2l, 1) := dc_133 (by decide +kernel)
theorem dX11_sink_111 : decode cX11_sink 111 = .ok (.ladd, 1) := dc_97 (by decide +kernel)
theorem dX11_sink_112 : decode cX11_sink 112 = .ok (.lastore, 1) := dc_80 (by decide +kernel)
theorem dX11_sink_113 : decode cX11_sink 113 = .ok (.iinc 5 1, 3) := dc_132 5 1 1 (by decide +kernel)
theorem dX11_sink_116 : decode cX11_sink 116 = .ok (.goto (-28), 3) := dc_167 255 228 (-28) (by decide +kernel)
theorem dX11_sink_119 : decode cX11_sink 119 = .ok (.iinc 4 1, 3) := dc_132 4 1 1 (by decide +kernel)
theorem dX11_sink_122 : decode cX11_sink 122 = .ok (.goto (-49), 3) := dc_167 255 207 (-49) (by decide +kernel)
theorem dX11_sink_31 : decode cX11_sink 31 = .ok (.bipush (-2), 2) := dc_16 254 (-2) (by decide +kernel)
theorem dX11_sink_33 : decode cX11_sink 33 = .ok (.ireturn, 1) := dc_172 (by decide +kernel)
abbrev R_X11_sink : Room := { frames := 6, cells := 0, slots := 0, locals := 167 }
set_option maxRecDepth 100000 in
set_option maxHeartbeats 4000000 in
theorem s_X11_sink {l : Launch} {n0 : Nat} {D : va_G} {cA : Nat → ClassId} {M : gM} (a : Int) (r_a : -2147483648 ≤ a ∧ a ≤ 2147483647) (b : Int) (r_b : -2147483648 ≤ b ∧ b ≤ 2147483647) (c : Int) (r_c : -2147483648 ≤ c ∧ c ≤ 2147483647) {sz : Nat} (hsz : 206 ≤ sz) (I : gI sz M) (C : gC sz M)   : Met l yX11_sink (gWsOf yX11_sink cX11_sink 6 (Option.some Jvm.ClassFile.FieldType.int)) R_X11_sink (gPc n0 D cA [gA n0 0, gJ a, gJ b, gJ c] M sz) (gQi n0 D cA sz (fun z M1 => (-5 ≤ z ∧ z ≤ 5) ∧ gI sz M1 ∧ gC sz M1 ∧ gFr 4328521728 M M1)) 0 0 (fun q => n0 ≤ q) := by
  refine gMetI [gA n0 0, gJ a, gJ b, gJ c] (by decide) (Nat.le_of_ble_eq_true rfl) ⟨rfl, rfl⟩ ?_
  intro p e s m args below meth cd Q X hq
  have X : gCx p s m args meth cd n0 D cA "ParishUnion" cX11_sink 6 := X
  show G p l e R_X11_sink s m args below meth cd n0 D cA 6 Q 0 0 M sz 0 [(0, gA n0 0), (1, gJ a), (2, gJ b), (3, gJ c)] []
  refine g_aload_n (n := 1) X 0 dX11_sink_0 rfl rfl rfl ?_
  refine g_iload_n (n := 2) X 1 dX11_sink_1 rfl rfl rfl ?_
  refine g_callVi (n := 5) (As := [gJ a]) (rest := []) (cs1 := 0) (ss1 := 0) X (s_X11_isGone a (by omega) hsz I C ) okX11_isGone kw_5_11 ⟨kw_5_13, kw_0_28⟩ ⟨rfl, rfl⟩ ⟨Nat.le_of_ble_eq_true rfl, Nat.le_of_ble_eq_true rfl⟩ rfl (by decide) (gsz hsz (by decide)) lay_0 rfl rfl (Nat.le_of_ble_eq_true rfl) ⟨Nat.le_of_ble_eq_true rfl, Nat.le_of_ble_eq_true rfl⟩ rfl rfl dX11_sink_2 rfl (fun v1 M2 P3 => ?_)
  obtain ⟨rfl, rv1, xv1⟩ := P3
  refine g_if_eq (n := 8) (tgt := 24) X dX11_sink_5 (by decide) (by omega) rfl (fun c4 => ?_) (fun c4 => ?_)
  · refine g_iconst (n := 25) X dX11_sink_24 rfl ?_
    exact hq _ _ _ _ dX11_sink_25 ⟨by omega, I, C, gFr.rf⟩
  · refine g_aload_n (n := 9) X 0 dX11_sink_8 rfl rfl rfl ?_
    refine g_iload_n (n := 10) X 2 dX11_sink_9 rfl rfl rfl ?_
    refine g_callVi (n := 13) (As := [gJ b]) (rest := []) (cs1 := 0) (ss1 := 0) X (s_X11_isGone b (by omega) hsz I C ) okX11_isGone kw_5_11 ⟨kw_5_13, kw_0_28⟩ ⟨rfl, rfl⟩ ⟨Nat.le_of_ble_eq_true rfl, Nat.le_of_ble_eq_true rfl⟩ rfl (by decide) (gsz hsz (by decide)) lay_0 rfl rfl (Nat.le_of_ble_eq_true rfl) ⟨Nat.le_of_ble_eq_true rfl, Nat.le_of_ble_eq_true rfl⟩ rfl rfl dX11_sink_10 rfl (fun v5 M6 P7 => ?_)
    obtain ⟨rfl, rv5, xv5⟩ := P7
    refine g_if_eq (n := 16) (tgt := 24) X dX11_sink_13 (by decide) (by omega) rfl (fun c8 => ?_) (fun c8 => ?_)
    · refine g_iconst (n := 25) X dX11_sink_24 rfl ?_
      exact hq _ _ _ _ dX11_sink_25 ⟨by omega, I, C, gFr.rf⟩
    · refine g_aload_n (n := 17) X 0 dX11_sink_16 rfl rfl rfl ?_
      refine g_iload_n (n := 18) X 3 dX11_sink_17 rfl rfl rfl ?_
      refine g_callVi (n := 21) (As := [gJ c]) (rest := []) (cs1 := 0) (ss1 := 0) X (s_X11_isEntryCount c (by omega) hsz I C ) okX11_isEntryCount kw_3_129 ⟨kw_3_131, kw_0_2⟩ ⟨rfl, rfl⟩ ⟨Nat.le_of_ble_eq_true rfl, Nat.le_of_ble_eq_true rfl⟩ rfl (by decide) (gsz hsz (by decide)) lay_0 rfl rfl (Nat.le_of_ble_eq_true rfl) ⟨Nat.le_of_ble_eq_true rfl, Nat.le_of_ble_eq_true rfl⟩ rfl rfl dX11_sink_18 rfl (fun v9 M10 P11 => ?_)
      obtain ⟨rfl, rv9, xv9⟩ := P11
      refine g_if_ne (n := 24) (tgt := 26) X dX11_sink_21 (by decide) (by omega) rfl (fun c12 => ?_) (fun c12 => ?_)
      · refine g_iload_n (n := 27) X 1 dX11_sink_26 rfl rfl rfl ?_
        refine g_iload_n (n := 28) X 2 dX11_sink_27 rfl rfl rfl ?_
        refine g_icmp_le (n := 31) (tgt := 34) X dX11_sink_28 (by decide) (by omega) (by omega) rfl (fun c13 => ?_) (fun c13 => ?_)
        · refine g_aload_n (n := 35) X 0 dX11_sink_34 rfl rfl rfl ?_
          refine gg_11_1 (n := 38) (z := 153) X (by decide) (gsz hsz (by decide)) lay_0 kw_2_232 dX11_sink_35 rfl (rf_0_1 I (gsz hsz (by decide))) (by decide) ?_
          refine g_aload_n (n := 39) X 0 dX11_sink_38 rfl rfl rfl ?_
          refine gg_11_0 (n := 42) (z := 1) X (by decide) (gsz hsz (by decide)) lay_0 kw_2_231 dX11_sink_39 rfl (rf_0_0 I (gsz hsz (by decide))) (by decide) ?_
          refine g_iload_n (n := 43) X 3 dX11_sink_42 rfl rfl rfl ?_
          refine g_callVv (n := 46) (As := [gA n0 1, gJ c]) (rest := []) (cs1 := 0) (ss1 := 0) X (s_X1_prepare c (by omega) hsz I C ) okX1_prepare kw_3_133 ⟨kw_3_134, kw_3_135⟩ ⟨rfl, rfl⟩ ⟨Nat.le_of_ble_eq_true rfl, Nat.le_of_ble_eq_true rfl⟩ rfl (by decide) (gsz hsz (by decide)) lay_153 rfl rfl (Nat.le_of_ble_eq_true rfl) ⟨Nat.le_of_ble_eq_true rfl, Nat.le_of_ble_eq_true rfl⟩ rfl rfl dX11_sink_43 rfl (fun M15 P16 => ?_)
          obtain ⟨IM15, CM15, FM15⟩ := P16
          refine g_iconst (n := 47) X dX11_sink_46 rfl ?_
          refine g_istore (n := 49) (L' := [(4, gJ 0), (0, gA n0 0), (1, gJ a), (2, gJ b), (3, gJ c)]) X dX11_sink_47 (by decide) rfl rfl ?_
          have j19 : ∀ (N289 : Nat) (v17 : Int) (M18 : gM) , (0 ≤ v17 ∧ v17 ≤ 6) → gI sz M18 → gC sz M18 → gFr 4294967296 M15 M18 → (6 - v17).toNat < N289 → G p l e R_X11_sink s m args below meth cd n0 D cA 6 Q 0 0 M18 sz 49 [(0, gA n0 0), (1, gJ a), (2, gJ b), (4, gJ v17)] [] := by
            intro N289; induction N289 with
            | zero => intro v17 M18 rv17 IM18 CM18 FM18 hm291; exfalso; omega
            | succ N289 ih290 =>
              intro v17 M18 rv17 IM18 CM18 FM18 hm291
              refine g_iload (n := 51) X 3 dX11_sink_49 rfl rfl ?_
              refine g_bipush (n := 53) X dX11_sink_51 (by decide +kernel) rfl ?_
              refine g_icmp_ge (n := 56) (tgt := 70) X dX11_sink_53 (by decide) (by omega) (by omega) rfl (fun c292 => ?_) (fun c292 => ?_)
              · refine g_iload_n (n := 71) X 1 dX11_sink_70 rfl rfl rfl ?_
                refine g_istore (n := 73) (L' := [(4, gJ a), (0, gA n0 0), (1, gJ a), (2, gJ b)]) X dX11_sink_71 (by decide) rfl rfl ?_
                have j297 : ∀ (N462 : Nat) (v295 : Int) (M296 : gM) , (0 ≤ v295 ∧ v295 ≤ 300) → gI sz M296 → gC sz M296 → gFr 4294967296 M18 M296 → (300 - v295).toNat < N462 → G p l e R_X11_sink s m args below meth cd n0 D cA 6 Q 0 0 M296 sz 73 [(0, gA n0 0), (2, gJ b), (4, gJ v295)] [] := by
                  intro N462; induction N462 with
                  | zero => intro v295 M296 rv295 IM296 CM296 FM296 hm464; exfalso; omega
                  | succ N462 ih463 =>
                    intro v295 M296 rv295 IM296 CM296 FM296 hm464
                    refine g_iload (n := 75) X 2 dX11_sink_73 rfl rfl ?_
                    refine g_iload_n (n := 76) X 1 dX11_sink_75 rfl rfl rfl ?_
                    refine g_icmp_gt (n := 79) (tgt := 125) X dX11_sink_76 (by decide) (by omega) (by omega) rfl (fun c465 => ?_) (fun c465 => ?_)
                    · refine g_iconst (n := 126) X dX11_sink_125 rfl ?_
                      refine g_istore (n := 128) (L' := [(4, gJ 0), (0, gA n0 0), (2, gJ b)]) X dX11_sink_126 (by decide) rfl rfl ?_
                      have j468 : ∀ (N494 : Nat) (v466 : Int) , (0 ≤ v466 ∧ v466 ≤ 6) → (6 - v466).toNat < N494 → G p l e R_X11_sink s m args below meth cd n0 D cA 6 Q 0 0 M296 sz 128 [(0, gA n0 0), (4, gJ v466)] [] := by
                        intro N494; induction N494 with
                        | zero => intro v466 rv466 hm496; exfalso; omega
                        | succ N494 ih495 =>
                          intro v466 rv466 hm496
                          refine g_iload (n := 130) X 1 dX11_sink_128 rfl rfl ?_
                          refine g_bipush (n := 132) X dX11_sink_130 (by decide +kernel) rfl ?_
                          refine g_icmp_ge (n := 135) (tgt := 169) X dX11_sink_132 (by decide) (by omega) (by omega) rfl (fun c497 => ?_) (fun c497 => ?_)
                          · refine g_bipush (n := 171) X dX11_sink_169 (by decide +kernel) rfl ?_
                            exact hq _ _ _ _ dX11_sink_171 ⟨by omega, IM296, CM296, (gFr.c (gFr.c (gFr.c gFr.rf FM15 rfl) FM18 rfl) FM296 rfl)⟩
                          · refine g_aload_n (n := 136) X 0 dX11_sink_135 rfl rfl rfl ?_
                            refine gg_11_8 (n := 139) (z := 173) X (by decide) (gsz hsz (by decide)) lay_0 kw_2_239 dX11_sink_136 rfl (rf_0_8 IM296 (gsz hsz (by decide))) (by decide) ?_
                            refine g_iload (n := 141) X 1 dX11_sink_139 rfl rfl ?_
                            obtain ⟨v498, hv498, rv498⟩ := gRd IM296 (by decide) (gsz hsz (by decide)) (ra_173 v466).1
                            refine g_lald2 (n := 142) (v := v498) X (by decide) (gsz hsz (by decide)) lay_173 (by omega) (by omega) (by decide) dX11_sink_141 rfl hv498 ?_
                            refine g_aload_n (n := 143) X 0 dX11_sink_142 rfl rfl rfl ?_
                            refine gg_11_0 (n := 146) (z := 1) X (by decide) (gsz hsz (by decide)) lay_0 kw_2_231 dX11_sink_143 rfl (rf_0_0 IM296 (gsz hsz (by decide))) (by decide) ?_
                            refine gg_9_0 (n := 149) (z := 2) X (by decide) (gsz hsz (by decide)) lay_1 kw_2_105 dX11_sink_146 rfl (rf_1_0 IM296 (gsz hsz (by decide))) (by decide) ?_
                            refine gg_3_0 (n := 152) (z := 3) X (by decide) (gsz hsz (by decide)) lay_2 kw_1_42 dX11_sink_149 rfl (rf_2_0 IM296 (gsz hsz (by decide))) (by decide) ?_
                            refine g_iload (n := 154) X 1 dX11_sink_152 rfl rfl ?_
                            obtain ⟨v499, hv499, rv499⟩ := gRd IM296 (by decide) (gsz hsz (by decide)) (ra_3 v466).1
                            refine g_iald2 (n := 155) (v := v499) X (by decide) (gsz hsz (by decide)) lay_3 (by omega) (by omega) (by decide) dX11_sink_154 rfl hv499 ?_
                            refine g_i2lE (n := 156) (z := v499) X dX11_sink_155 (g_i2l (by omega)) rfl ?_
                            refine g_lcmp2 (n := 157) X dX11_sink_156 (by omega) (by omega) rfl (fun v500 xv500 rv500 => ?_)
                            refine g_if_le (n := 160) (tgt := 163) X dX11_sink_157 (by decide) (by omega) rfl (fun c501 => ?_) (fun c501 => ?_)
                            · refine g_iinc (n := 166) (w := v466 + 1) (L' := [(4, gJ (v466 + 1)), (0, gA n0 0)]) X 1 dX11_sink_163 rfl rfl (by decide) rfl rfl ?_
                              refine g_goto (tgt := 128) X dX11_sink_166 (by decide) ?_
                              refine G.sub (L' := [(0, gA n0 0), (4, gJ (v466 + 1))]) [1, 0] rfl ?_
                              exact ih495 (v466 + 1) (by omega) (by omega)
                            · refine g_iload (n := 162) X 1 dX11_sink_160 rfl rfl ?_
                              exact hq _ _ _ _ dX11_sink_162 ⟨by omega, IM296, CM296, (gFr.c (gFr.c (gFr.c gFr.rf FM15 rfl) FM18 rfl) FM296 rfl)⟩
                      refine G.sub (L' := [(0, gA n0 0), (4, gJ 0)]) [1, 0] rfl ?_
                      exact j468 _ 0 (by omega) (Nat.lt_succ_self _)
                    · refine g_aload_n (n := 80) X 0 dX11_sink_79 rfl rfl rfl ?_
                      refine g_iload (n := 82) X 2 dX11_sink_80 rfl rfl ?_
                      refine g_callVv (n := 85) (As := [gJ v295]) (rest := []) (cs1 := 0) (ss1 := 0) X (s_X11_shareOut v295 (by omega) hsz IM296 CM296 ) okX11_shareOut kw_5_55 ⟨kw_5_57, kw_0_30⟩ ⟨rfl, rfl⟩ ⟨Nat.le_of_ble_eq_true rfl, Nat.le_of_ble_eq_true rfl⟩ rfl (by decide) (gsz hsz (by decide)) lay_0 rfl rfl (Nat.le_of_ble_eq_true rfl) ⟨Nat.le_of_ble_eq_true rfl, Nat.le_of_ble_eq_true rfl⟩ rfl rfl dX11_sink_82 rfl (fun M503 P504 => ?_)
                      obtain ⟨IM503, CM503, FM503⟩ := P504
                      refine g_iconst (n := 86) X dX11_sink_85 rfl ?_
                      refine g_istore (n := 88) (L' := [(5, gJ 0), (0, gA n0 0), (2, gJ b), (4, gJ v295)]) X dX11_sink_86 (by decide) rfl rfl ?_
                      have j507 : ∀ (N538 : Nat) (v505 : Int) (M506 : gM) , (0 ≤ v505 ∧ v505 ≤ 6) → gI sz M506 → gC sz M506 → gFr 4294967296 M503 M506 → (6 - v505).toNat < N538 → G p l e R_X11_sink s m args below meth cd n0 D cA 6 Q 0 0 M506 sz 88 [(0, gA n0 0), (2, gJ b), (4, gJ v295), (5, gJ v505)] [] := by
                        intro N538; induction N538 with
                        | zero => intro v505 M506 rv505 IM506 CM506 FM506 hm540; exfalso; omega
                        | succ N538 ih539 =>
                          intro v505 M506 rv505 IM506 CM506 FM506 hm540
                          refine g_iload (n := 90) X 3 dX11_sink_88 rfl rfl ?_
                          refine g_bipush (n := 92) X dX11_sink_90 (by decide +kernel) rfl ?_
                          refine g_icmp_ge (n := 95) (tgt := 119) X dX11_sink_92 (by decide) (by omega) (by omega) rfl (fun c541 => ?_) (fun c541 => ?_)
                          · refine g_iinc (n := 122) (w := v295 + 1) (L' := [(4, gJ (v295 + 1)), (0, gA n0 0), (2, gJ b), (5, gJ v505)]) X 2 dX11_sink_119 rfl rfl (by decide) rfl rfl ?_
                            refine g_goto (tgt := 73) X dX11_sink_122 (by decide) ?_
                            refine G.sub (L' := [(0, gA n0 0), (2, gJ b), (4, gJ (v295 + 1))]) [1, 2, 0] rfl ?_
                            exact ih463 (v295 + 1) M506 (by omega) IM506 CM506 (gFr.c (gFr.c (gFr.c gFr.rf FM296 rfl) FM503 rfl) FM506 rfl) (by omega)
                          · refine g_aload_n (n := 96) X 0 dX11_sink_95 rfl rfl rfl ?_
                            refine gg_11_8 (n := 99) (z := 173) X (by decide) (gsz hsz (by decide)) lay_0 kw_2_239 dX11_sink_96 rfl (rf_0_8 IM506 (gsz hsz (by decide))) (by decide) ?_
                            refine g_iload (n := 101) X 3 dX11_sink_99 rfl rfl ?_
                            refine g_dup2 (n := 102) X dX11_sink_101 rfl rfl rfl ?_
                            obtain ⟨v542, hv542, rv542⟩ := gRd IM506 (by decide) (gsz hsz (by decide)) (ra_173 v505).1
                            refine g_lald2 (n := 103) (v := v542) X (by decide) (gsz hsz (by decide)) lay_173 (by omega) (by omega) (by decide) dX11_sink_102 rfl hv542 ?_
                            refine g_aload_n (n := 104) X 0 dX11_sink_103 rfl rfl rfl ?_
                            refine gg_11_7 (n := 107) (z := 172) X (by decide) (gsz hsz (by decide)) lay_0 kw_2_238 dX11_sink_104 rfl (rf_0_7 IM506 (gsz hsz (by decide))) (by decide) ?_
                            refine g_iload (n := 109) X 3 dX11_sink_107 rfl rfl ?_
                            obtain ⟨v543, hv543, rv543⟩ := gRd IM506 (by decide) (gsz hsz (by decide)) (ra_172 v505).1
                            refine g_iald2 (n := 110) (v := v543) X (by decide) (gsz hsz (by decide)) lay_172 (by omega) (by omega) (by decide) dX11_sink_109 rfl hv543 ?_
                            refine g_i2lE (n := 111) (z := v543) X dX11_sink_110 (g_i2l (by omega)) rfl ?_
                            refine g_laddA (n := 112) X dX11_sink_111 rfl (fun v544 rv544 xv544 => ?_)
                            clear xv544
                            refine g_last (n := 113) X (by decide) (gsz hsz (by decide)) lay_173 (by omega) (by omega) (by decide) dX11_sink_112 rfl ?_
                            refine G.nm (fun M545 e546 => ?_)
                            have IM545 : gI sz M545 := gI.set IM506 (ra_173 v505).1 (by omega) e546
                            have CM545 : gC sz M545 := gC.set CM506 (ra_173 v505).2.1 e546
                            refine g_iinc (n := 116) (w := v505 + 1) (L' := [(5, gJ (v505 + 1)), (0, gA n0 0), (2, gJ b), (4, gJ v295)]) X 3 dX11_sink_113 rfl rfl (by decide) rfl rfl ?_
                            refine g_goto (tgt := 88) X dX11_sink_116 (by decide) ?_
                            refine G.sub (L' := [(0, gA n0 0), (2, gJ b), (4, gJ v295), (5, gJ (v505 + 1))]) [1, 2, 3, 0] rfl ?_
                            exact ih539 (v505 + 1) M545 (by omega) IM545 CM545 (gFr.s (gFr.c gFr.rf FM506 rfl) e546 (ra_173 v505).2.2 rfl) (by omega)
                      refine G.sub (L' := [(0, gA n0 0), (2, gJ b), (4, gJ v295), (5, gJ 0)]) [1, 2, 3, 0] rfl ?_
                      exact j507 _ 0 M503 (by omega) IM503 CM503 gFr.rf (Nat.lt_succ_self _)
                refine G.sub (L' := [(0, gA n0 0), (2, gJ b), (4, gJ a)]) [1, 3, 0] rfl ?_
                exact j297 _ a M18 (by omega) IM18 CM18 gFr.rf (Nat.lt_succ_self _)
              · refine g_aload_n (n := 57) X 0 dX11_sink_56 rfl rfl rfl ?_
                refine gg_11_8 (n := 60) (z := 173) X (by decide) (gsz hsz (by decide)) lay_0 kw_2_239 dX11_sink_57 rfl (rf_0_8 IM18 (gsz hsz (by decide))) (by decide) ?_
                refine g_iload (n := 62) X 3 dX11_sink_60 rfl rfl ?_
                refine g_lconst (n := 63) (z := 0) X dX11_sink_62 (by decide +kernel) rfl ?_
                refine g_last (n := 64) X (by decide) (gsz hsz (by decide)) lay_173 (by omega) (by omega) (by decide) dX11_sink_63 rfl ?_
                refine G.nm (fun M547 e548 => ?_)
                have IM547 : gI sz M547 := gI.set IM18 (ra_173 v17).1 (by omega) e548
                have CM547 : gC sz M547 := gC.set CM18 (ra_173 v17).2.1 e548
                refine g_iinc (n := 67) (w := v17 + 1) (L' := [(4, gJ (v17 + 1)), (0, gA n0 0), (1, gJ a), (2, gJ b)]) X 3 dX11_sink_64 rfl rfl (by decide) rfl rfl ?_
                refine g_goto (tgt := 49) X dX11_sink_67 (by decide) ?_
                refine G.sub (L' := [(0, gA n0 0), (1, gJ a), (2, gJ b), (4, gJ (v17 + 1))]) [1, 2, 3, 0] rfl ?_
                exact ih290 (v17 + 1) M547 (by omega) IM547 CM547 (gFr.s (gFr.c gFr.rf FM18 rfl) e548 (ra_173 v17).2.2 rfl) (by omega)
          refine G.sub (L' := [(0, gA n0 0), (1, gJ a), (2, gJ b), (4, gJ 0)]) [1, 2, 3, 0] rfl ?_
          exact j19 _ 0 M15 (by omega) IM15 CM15 gFr.rf (Nat.lt_succ_self _)
        · refine g_bipush (n := 33) X dX11_sink_31 (by decide +kernel) rfl ?_
          exact hq _ _ _ _ dX11_sink_33 ⟨by omega, I, C, gFr.rf⟩
      · refine g_iconst (n := 25) X dX11_sink_24 rfl ?_
        exact hq _ _ _ _ dX11_sink_25 ⟨by omega, I, C, gFr.rf⟩
theorem dX11_greatest_0 : decode cX11_greatest 0 = .ok (.aload_n 0, 1) := dc_42 (by decide +kernel)
theorem dX11_greatest_1 : decode cX11_greatest 1 = .ok (.getfield 10, 3) := dc_180 0 10 (by decide +kernel)
theorem dX11_greatest_4 : decode cX11_greatest 4 = .ok (.getfield 336, 3) := dc_180 1 80 (by decide +kernel)
theorem dX11_greatest_7 : decode cX11_greatest 7 = .ok (.aload_n 0, 1) := dc_42 (by decide +kernel)
theorem dX11_greatest_8 : decode cX11_greatest 8 = .ok (.getfield 10, 3) := dc_180 0 10 (by decide +kernel)
theorem dX11_greatest_11 : decode cX11_greatest 11 = .ok (.getfield 66, 3) := dc_180 0 66 (by decide +kernel)
theorem dX11_greatest_14 : decode cX11_greatest 14 = .ok (.invokevirtual 351, 3) := dc_182 1 95 (by decide +kernel)
theorem kw_5_103 : (Jvm.Cond.methodLink "ParishUnion" (351 : Nat) ({ cls := "ParishUnion$Vagrants", name := "greatestSet", desc := "(LParishUnion$Land;)I" } : Jvm.MethodName)) ∈ gT := gT_of (tb_5 _ (List.mem_of_getElem? (i := 103) rfl)) rfl
theorem kw_5_106 : (Jvm.Cond.code ({ cls := "ParishUnion$Vagrants", name := "greatestSet", desc := "(LParishUnion$Land;)I" } : Jvm.MethodName) prog_12_method_5_code (7 : Nat) (Option.some Jvm.ClassFile.FieldType.int)) ∈ gT := gT_of (tb_5 _ (List.mem_of_getElem? (i := 106) rfl)) rfl
theorem okX10_greatestSet : gQok yX10_greatestSet cX10_greatestSet 7 (Option.some Jvm.ClassFile.FieldType.int) 1 := ⟨kw_5_106, kw_1_7, by decide +kernel, by decide +kernel, by decide +kernel⟩
theorem kw_5_104 : (Jvm.Cond.instanceMethod ({ cls := "ParishUnion$Vagrants", name := "greatestSet", desc := "(LParishUnion$Land;)I" } : Jvm.MethodName)) ∈ gT := gT_of (tb_5 _ (List.mem_of_getElem? (i := 104) rfl)) rfl
theorem kw_5_105 : (Jvm.Cond.selects "ParishUnion$Vagrants" ({ cls := "ParishUnion$Vagrants", name := "greatestSet", desc := "(LParishUnion$Land;)I" } : Jvm.MethodName) ({ cls := "ParishUnion$Vagrants", name := "greatestSet", desc := "(LParishUnion$Land;)I" } : Jvm.MethodName)) ∈ gT := gT_of (tb_5 _ (List.mem_of_getElem? (i := 105) rfl)) rfl
theorem dX11_greatest_17 : decode cX11_greatest 17 = .ok (.ireturn, 1) := dc_172 (by decide +kernel)
abbrev R_X11_greatest : Room := { frames := 3, cells := 0, slots := 0, locals := 73 }
set_option maxRecDepth 100000 in
set_option maxHeartbeats 4000000 in
theorem s_X11_greatest {l : Launch} {n0 : Nat} {D : va_G} {cA : Nat → ClassId} {M : gM}  {sz : Nat} (hsz : 206 ≤ sz) (I : gI sz M) (C : gC sz M)   : Met l yX11_greatest (gWsOf yX11_greatest cX11_greatest 1 (Option.some Jvm.ClassFile.FieldType.int)) R_X11_greatest (gPc n0 D cA [gA n0 0] M sz) (gQi n0 D cA sz (fun z M1 => M = M1 ∧ (0 ≤ z ∧ z ≤ 255))) 0 0 (fun q => n0 ≤ q) := by
  refine gMetI [gA n0 0] (by decide) (Nat.le_of_ble_eq_true rfl) ⟨rfl, rfl⟩ ?_
  intro p e s m args below meth cd Q X hq
  have X : gCx p s m args meth cd n0 D cA "ParishUnion" cX11_greatest 1 := X
  show G p l e R_X11_greatest s m args below meth cd n0 D cA 1 Q 0 0 M sz 0 [(0, gA n0 0)] []
  refine g_aload_n (n := 1) X 0 dX11_greatest_0 rfl rfl rfl ?_
  refine gg_11_0 (n := 4) (z := 1) X (by decide) (gsz hsz (by decide)) lay_0 kw_2_231 dX11_greatest_1 rfl (rf_0_0 I (gsz hsz (by decide))) (by decide) ?_
  refine gg_9_8 (n := 7) (z := 26) X (by decide) (gsz hsz (by decide)) lay_1 kw_2_123 dX11_greatest_4 rfl (rf_1_8 I (gsz hsz (by decide))) (by decide) ?_
  refine g_aload_n (n := 8) X 0 dX11_greatest_7 rfl rfl rfl ?_
  refine gg_11_0 (n := 11) (z := 1) X (by decide) (gsz hsz (by decide)) lay_0 kw_2_231 dX11_greatest_8 rfl (rf_0_0 I (gsz hsz (by decide))) (by decide) ?_
  refine gg_9_0 (n := 14) (z := 2) X (by decide) (gsz hsz (by decide)) lay_1 kw_2_105 dX11_greatest_11 rfl (rf_1_0 I (gsz hsz (by decide))) (by decide) ?_
  refine g_callVi (n := 17) (As := [gA n0 2]) (rest := []) (cs1 := 0) (ss1 := 0) X (s_X10_greatestSet  hsz I C ) okX10_greatestSet kw_5_103 ⟨kw_5_104, kw_5_105⟩ ⟨rfl, rfl⟩ ⟨Nat.le_of_ble_eq_true rfl, Nat.le_of_ble_eq_true rfl⟩ rfl (by decide) (gsz hsz (by decide)) lay_26 rfl rfl (Nat.le_of_ble_eq_true rfl) ⟨Nat.le_of_ble_eq_true rfl, Nat.le_of_ble_eq_true rfl⟩ rfl rfl dX11_greatest_14 rfl (fun v1 M2 P3 => ?_)
  obtain ⟨rfl, rv1⟩ := P3
  exact hq _ _ _ _ dX11_greatest_17 ⟨rfl, by omega⟩
