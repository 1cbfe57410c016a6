theorem dX12_oneWord_0 : decode cX12_oneWord 0 = .ok (.sipush 1023, 3) := dc_17 3 255 1023 (by decide +kernel)
theorem dX12_oneWord_3 : decode cX12_oneWord 3 = .ok (.istore_n 1, 1) := dc_60 (by decide +kernel)
theorem dX12_oneWord_4 : decode cX12_oneWord 4 = .ok (.iconst 0, 1) := dc_3 (by decide +kernel)
theorem dX12_oneWord_5 : decode cX12_oneWord 5 = .ok (.istore_n 2, 1) := dc_61 (by decide +kernel)
theorem dX12_oneWord_6 : decode cX12_oneWord 6 = .ok (.iconst 0, 1) := dc_3 (by decide +kernel)
theorem dX12_oneWord_7 : decode cX12_oneWord 7 = .ok (.istore_n 3, 1) := dc_62 (by decide +kernel)
theorem dX12_oneWord_8 : decode cX12_oneWord 8 = .ok (.iconst 0, 1) := dc_3 (by decide +kernel)
theorem dX12_oneWord_9 : decode cX12_oneWord 9 = .ok (.istore 4, 2) := dc_54 4 (by decide +kernel)
theorem dX12_oneWord_11 : decode cX12_oneWord 11 = .ok (.iload 4, 2) := dc_21 4 (by decide +kernel)
theorem dX12_oneWord_13 : decode cX12_oneWord 13 = .ok (.bipush 10, 2) := dc_16 10 10 (by decide +kernel)
theorem dX12_oneWord_15 : decode cX12_oneWord 15 = .ok (.if_icmp .ge 58, 3) := dc_162 0 58 58 (by decide +kernel)
theorem dX12_oneWord_18 : decode cX12_oneWord 18 = .ok (.iload_n 3, 1) := dc_29 (by decide +kernel)
theorem dX12_oneWord_19 : decode cX12_oneWord 19 = .ok (.iload_n 1, 1) := dc_27 (by decide +kernel)
theorem dX12_oneWord_20 : decode cX12_oneWord 20 = .ok (.iload 4, 2) := dc_21 4 (by decide +kernel)
theorem dX12_oneWord_22 : decode cX12_oneWord 22 = .ok (.ishr, 1) := dc_122 (by decide +kernel)
theorem dX12_oneWord_23 : decode cX12_oneWord 23 = .ok (.iconst 1, 1) := dc_4 (by decide +kernel)
theorem dX12_oneWord_24 : decode cX12_oneWord 24 = .ok (.iand, 1) := dc_126 (by decide +kernel)
theorem dX12_oneWord_25 : decode cX12_oneWord 25 = .ok (.iconst 1, 1) := dc_4 (by decide +kernel)
theorem dX12_oneWord_26 : decode cX12_oneWord 26 = .ok (.if_icmp .ne 38, 3) := dc_160 0 38 38 (by decide +kernel)
theorem dX12_oneWord_64 : decode cX12_oneWord 64 = .ok (.iconst 0, 1) := dc_3 (by decide +kernel)
theorem dX12_oneWord_65 : decode cX12_oneWord 65 = .ok (.ior, 1) := dc_128 (by decide +kernel)
theorem dX12_oneWord_66 : decode cX12_oneWord 66 = .ok (.istore_n 3, 1) := dc_62 (by decide +kernel)
theorem dX12_oneWord_67 : decode cX12_oneWord 67 = .ok (.iinc 4 1, 3) := dc_132 4 1 1 (by decide +kernel)
theorem dX12_oneWord_70 : decode cX12_oneWord 70 = .ok (.goto (-59), 3) := dc_167 255 197 (-59) (by decide +kernel)
theorem dX12_oneWord_29 : decode cX12_oneWord 29 = .ok (.iload_n 2, 1) := dc_28 (by decide +kernel)
theorem dX12_oneWord_30 : decode cX12_oneWord 30 = .ok (.iload 4, 2) := dc_21 4 (by decide +kernel)
theorem dX12_oneWord_32 : decode cX12_oneWord 32 = .ok (.invokestatic 163, 3) := dc_184 0 163 (by decide +kernel)
theorem kw_7_13 : (Jvm.Cond.code ({ cls := "ParishUnionModel", name := "word", desc := "(I)Ljava/lang/String;" } : Jvm.MethodName) prog_14_method_37_code (1 : Nat) (Option.some (Jvm.ClassFile.FieldType.object "java/lang/String"))) ∈ gT := gT_of (tb_7 _ (List.mem_of_getElem? (i := 13) rfl)) rfl
theorem okX12_word : gQok yX12_word cX12_word 1 (Option.some (Jvm.ClassFile.FieldType.object "java/lang/String")) 1 := ⟨kw_7_13, kw_1_13, by decide +kernel, by decide +kernel, by decide +kernel⟩
theorem kw_7_11 : (Jvm.Cond.methodLink "ParishUnionModel" (163 : Nat) ({ cls := "ParishUnionModel", name := "word", desc := "(I)Ljava/lang/String;" } : Jvm.MethodName)) ∈ gT := gT_of (tb_7 _ (List.mem_of_getElem? (i := 11) rfl)) rfl
theorem kw_7_12 : (Jvm.Cond.static ({ cls := "ParishUnionModel", name := "word", desc := "(I)Ljava/lang/String;" } : Jvm.MethodName)) ∈ gT := gT_of (tb_7 _ (List.mem_of_getElem? (i := 12) rfl)) rfl
theorem dX12_oneWord_35 : decode cX12_oneWord 35 = .ok (.invokevirtual 167, 3) := dc_182 0 167 (by decide +kernel)
theorem kw_7_24 : (Jvm.Cond.methodLink "ParishUnionModel" (167 : Nat) ({ cls := "java/lang/String", name := "length", desc := "()I" } : Jvm.MethodName)) ∈ gT := gT_of (tb_7 _ (List.mem_of_getElem? (i := 24) rfl)) rfl
theorem dX12_oneWord_38 : decode cX12_oneWord 38 = .ok (.if_icmp .ge 26, 3) := dc_162 0 26 26 (by decide +kernel)
theorem dX12_oneWord_41 : decode cX12_oneWord 41 = .ok (.iload 4, 2) := dc_21 4 (by decide +kernel)
theorem dX12_oneWord_43 : decode cX12_oneWord 43 = .ok (.invokestatic 163, 3) := dc_184 0 163 (by decide +kernel)
theorem dX12_oneWord_46 : decode cX12_oneWord 46 = .ok (.iload_n 2, 1) := dc_28 (by decide +kernel)
theorem dX12_oneWord_47 : decode cX12_oneWord 47 = .ok (.invokevirtual 172, 3) := dc_182 0 172 (by decide +kernel)
theorem kw_7_25 : (Jvm.Cond.methodLink "ParishUnionModel" (172 : Nat) ({ cls := "java/lang/String", name := "charAt", desc := "(I)C" } : Jvm.MethodName)) ∈ gT := gT_of (tb_7 _ (List.mem_of_getElem? (i := 25) rfl)) rfl
theorem dX12_oneWord_50 : decode cX12_oneWord 50 = .ok (.aload_n 0, 1) := dc_42 (by decide +kernel)
theorem dX12_oneWord_51 : decode cX12_oneWord 51 = .ok (.invokevirtual 139, 3) := dc_182 0 139 (by decide +kernel)
theorem dX12_oneWord_54 : decode cX12_oneWord 54 = .ok (.if_icmp .ne 10, 3) := dc_160 0 10 10 (by decide +kernel)
theorem dX12_oneWord_57 : decode cX12_oneWord 57 = .ok (.iconst 1, 1) := dc_4 (by decide +kernel)
theorem dX12_oneWord_58 : decode cX12_oneWord 58 = .ok (.iload 4, 2) := dc_21 4 (by decide +kernel)
theorem dX12_oneWord_60 : decode cX12_oneWord 60 = .ok (.ishl, 1) := dc_120 (by decide +kernel)
theorem dX12_oneWord_61 : decode cX12_oneWord 61 = .ok (.goto 4, 3) := dc_167 0 4 4 (by decide +kernel)
theorem dX12_oneWord_73 : decode cX12_oneWord 73 = .ok (.iload_n 3, 1) := dc_29 (by decide +kernel)
theorem dX12_oneWord_74 : decode cX12_oneWord 74 = .ok (.ifCond .ne 10, 3) := dc_154 0 10 10 (by decide +kernel)
theorem dX12_oneWord_84 : decode cX12_oneWord 84 = .ok (.iload_n 3, 1) := dc_29 (by decide +kernel)
theorem dX12_oneWord_85 : decode cX12_oneWord 85 = .ok (.istore_n 1, 1) := dc_60 (by decide +kernel)
theorem dX12_oneWord_86 : decode cX12_oneWord 86 = .ok (.aload_n 0, 1) := dc_42 (by decide +kernel)
theorem dX12_oneWord_87 : decode cX12_oneWord 87 = .ok (.dup, 1) := dc_89 (by decide +kernel)
theorem dX12_oneWord_88 : decode cX12_oneWord 88 = .ok (.getfield 129, 3) := dc_180 0 129 (by decide +kernel)
theorem dX12_oneWord_91 : decode cX12_oneWord 91 = .ok (.iconst 1, 1) := dc_4 (by decide +kernel)
theorem dX12_oneWord_92 : decode cX12_oneWord 92 = .ok (.iadd, 1) := dc_96 (by decide +kernel)
theorem dX12_oneWord_93 : decode cX12_oneWord 93 = .ok (.putfield 129, 3) := dc_181 0 129 (by decide +kernel)
theorem dX12_oneWord_96 : decode cX12_oneWord 96 = .ok (.iinc 2 1, 3) := dc_132 2 1 1 (by decide +kernel)
theorem dX12_oneWord_99 : decode cX12_oneWord 99 = .ok (.iconst 0, 1) := dc_3 (by decide +kernel)
theorem dX12_oneWord_100 : decode cX12_oneWord 100 = .ok (.istore 4, 2) := dc_54 4 (by decide +kernel)
theorem dX12_oneWord_102 : decode cX12_oneWord 102 = .ok (.iload 4, 2) := dc_21 4 (by decide +kernel)
theorem dX12_oneWord_104 : decode cX12_oneWord 104 = .ok (.bipush 10, 2) := dc_16 10 10 (by decide +kernel)
theorem dX12_oneWord_106 : decode cX12_oneWord 106 = .ok (.if_icmp .ge 32, 3) := dc_162 0 32 32 (by decide +kernel)
theorem dX12_oneWord_109 : decode cX12_oneWord 109 = .ok (.iload_n 1, 1) := dc_27 (by decide +kernel)
theorem dX12_oneWord_110 : decode cX12_oneWord 110 = .ok (.iconst 1, 1) := dc_4 (by decide +kernel)
theorem dX12_oneWord_111 : decode cX12_oneWord 111 = .ok (.iload 4, 2) := dc_21 4 (by decide +kernel)
theorem dX12_oneWord_113 : decode cX12_oneWord 113 = .ok (.ishl, 1) := dc_120 (by decide +kernel)
theorem dX12_oneWord_114 : decode cX12_oneWord 114 = .ok (.if_icmp .ne 18, 3) := dc_160 0 18 18 (by decide +kernel)
theorem dX12_oneWord_132 : decode cX12_oneWord 132 = .ok (.iinc 4 1, 3) := dc_132 4 1 1 (by decide +kernel)
theorem dX12_oneWord_135 : decode cX12_oneWord 135 = .ok (.goto (-33), 3) := dc_167 255 223 (-33) (by decide +kernel)
theorem dX12_oneWord_117 : decode cX12_oneWord 117 = .ok (.iload 4, 2) := dc_21 4 (by decide +kernel)
theorem dX12_oneWord_119 : decode cX12_oneWord 119 = .ok (.invokestatic 163, 3) := dc_184 0 163 (by decide +kernel)
theorem dX12_oneWord_122 : decode cX12_oneWord 122 = .ok (.invokevirtual 167, 3) := dc_182 0 167 (by decide +kernel)
theorem dX12_oneWord_125 : decode cX12_oneWord 125 = .ok (.iload_n 2, 1) := dc_28 (by decide +kernel)
theorem dX12_oneWord_126 : decode cX12_oneWord 126 = .ok (.if_icmp .ne 6, 3) := dc_160 0 6 6 (by decide +kernel)
theorem dX12_oneWord_129 : decode cX12_oneWord 129 = .ok (.iload 4, 2) := dc_21 4 (by decide +kernel)
theorem dX12_oneWord_131 : decode cX12_oneWord 131 = .ok (.ireturn, 1) := dc_172 (by decide +kernel)
theorem dX12_oneWord_138 : decode cX12_oneWord 138 = .ok (.goto (-132), 3) := dc_167 255 124 (-132) (by decide +kernel)
theorem dX12_oneWord_77 : decode cX12_oneWord 77 = .ok (.aload_n 0, 1) := dc_42 (by decide +kernel)
theorem dX12_oneWord_78 : decode cX12_oneWord 78 = .ok (.iconst 1, 1) := dc_4 (by decide +kernel)
theorem dX12_oneWord_79 : decode cX12_oneWord 79 = .ok (.putfield 135, 3) := dc_181 0 135 (by decide +kernel)
theorem dX12_oneWord_82 : decode cX12_oneWord 82 = .ok (.iconst 0, 1) := dc_3 (by decide +kernel)
theorem dX12_oneWord_83 : decode cX12_oneWord 83 = .ok (.ireturn, 1) := dc_172 (by decide +kernel)
abbrev R_X12_oneWord : Room := { frames := 4, cells := 0, slots := 0, locals := 85 }
set_option maxRecDepth 100000 in
set_option maxHeartbeats 4000000 in
theorem s_X12_oneWord {l : Launch} {n0 : Nat} {D : va_G} {cA : Nat → ClassId} {M : gM}  {sz : Nat} (hsz : 206 ≤ sz) (I : gI sz M) (C : gC sz M)   : Met l yX12_oneWord (gWsOf yX12_oneWord cX12_oneWord 5 (Option.some Jvm.ClassFile.FieldType.int)) R_X12_oneWord (gPc n0 D cA [gA n0 190] M sz) (gQi n0 D cA sz (fun z M1 => (0 ≤ z ∧ z ≤ 9) ∧ gI sz M1 ∧ gC sz M1 ∧ gFr 147573952589676412928 M M1 ∧ (M 190 12 ≤ M1 190 12))) 0 0 (fun q => n0 ≤ q) := by
  refine gMetI [gA n0 190] (by decide) (Nat.le_of_ble_eq_true rfl) ⟨rfl, rfl⟩ ?_
  intro p e s m args below meth cd Q X hq
  have X : gCx p s m args meth cd n0 D cA "ParishUnionModel" cX12_oneWord 5 := X
  show G p l e R_X12_oneWord s m args below meth cd n0 D cA 5 Q 0 0 M sz 0 [(0, gA n0 190)] []
  obtain ⟨v1, hv1, rv1⟩ := gRd I (by decide) (gsz hsz (by decide)) rc_190_12.1
  refine g_sipush (n := 3) X dX12_oneWord_0 (by decide +kernel) rfl ?_
  refine g_istore_n (n := 4) (L' := [(1, gJ 1023), (0, gA n0 190)]) X dX12_oneWord_3 rfl (by decide) rfl rfl ?_
  refine g_iconst (n := 5) X dX12_oneWord_4 rfl ?_
  refine g_istore_n (n := 6) (L' := [(2, gJ 0), (1, gJ 1023), (0, gA n0 190)]) X dX12_oneWord_5 rfl (by decide) rfl rfl ?_
  have j5 : ∀ (N636 : Nat) (v2 v3 : Int) (M4 : gM) , (-2147483648 ≤ v2 ∧ v2 ≤ 2147483647) → (0 ≤ v3 ∧ v3 ≤ 6) → gI sz M4 → gC sz M4 → gFr 147573952589676412928 M M4 → (M 190 12 ≤ M4 190 12) → (7 - v3).toNat < N636 → G p l e R_X12_oneWord s m args below meth cd n0 D cA 5 Q 0 0 M4 sz 6 [(0, gA n0 190), (1, gJ v2), (2, gJ v3)] [] := by
    intro N636; induction N636 with
    | zero => intro v2 v3 M4 rv2 rv3 IM4 CM4 FM4 hs5 hm638; exfalso; omega
    | succ N636 ih637 =>
      intro v2 v3 M4 rv2 rv3 IM4 CM4 FM4 hs5 hm638
      obtain ⟨v639, hv639, rv639⟩ := gRd IM4 (by decide) (gsz hsz (by decide)) rc_190_12.1
      refine g_iconst (n := 7) X dX12_oneWord_6 rfl ?_
      refine g_istore_n (n := 8) (L' := [(3, gJ 0), (0, gA n0 190), (1, gJ v2), (2, gJ v3)]) X dX12_oneWord_7 rfl (by decide) rfl rfl ?_
      refine g_iconst (n := 9) X dX12_oneWord_8 rfl ?_
      refine g_istore (n := 11) (L' := [(4, gJ 0), (3, gJ 0), (0, gA n0 190), (1, gJ v2), (2, gJ v3)]) X dX12_oneWord_9 (by decide) rfl rfl ?_
      have j643 : ∀ (N849 : Nat) (v640 v641 : Int) , (-2147483648 ≤ v640 ∧ v640 ≤ 2147483647) → (0 ≤ v641 ∧ v641 ≤ 10) → (v640 = 0 ∨ (v3 ≤ 5 ∧ M4 190 12 ≤ 149)) → (10 - v641).toNat < N849 → G p l e R_X12_oneWord s m args below meth cd n0 D cA 5 Q 0 0 M4 sz 11 [(0, gA n0 190), (1, gJ v2), (2, gJ v3), (3, gJ v640), (4, gJ v641)] [] := by
        intro N849; induction N849 with
        | zero => intro v640 v641 rv640 rv641 hw hm851; exfalso; omega
        | succ N849 ih850 =>
          intro v640 v641 rv640 rv641 hw hm851
          refine g_iload (n := 13) X 4 dX12_oneWord_11 rfl rfl ?_
          refine g_bipush (n := 15) X dX12_oneWord_13 (by decide +kernel) rfl ?_
          refine g_icmp_ge (n := 18) (tgt := 73) X dX12_oneWord_15 (by decide) (by omega) (by omega) rfl (fun c852 => ?_) (fun c852 => ?_)
          · refine g_iload_n (n := 74) X 3 dX12_oneWord_73 rfl rfl rfl ?_
            refine g_if_ne (n := 77) (tgt := 84) X dX12_oneWord_74 (by decide) (by omega) rfl (fun c853 => ?_) (fun c853 => ?_)
            · refine g_iload_n (n := 85) X 3 dX12_oneWord_84 rfl rfl rfl ?_
              refine g_istore_n (n := 86) (L' := [(1, gJ v640), (0, gA n0 190), (2, gJ v3), (3, gJ v640), (4, gJ v641)]) X dX12_oneWord_85 rfl (by decide) rfl rfl ?_
              refine g_aload_n (n := 87) X 1 dX12_oneWord_86 rfl rfl rfl ?_
              refine g_dup (n := 88) X dX12_oneWord_87 rfl rfl ?_
              refine gg_12_12 (n := 91) (z := v639) X (by decide) (gsz hsz (by decide)) lay_190 kw_6_38 dX12_oneWord_88 rfl hv639 ?_
              refine g_iconst (n := 92) X dX12_oneWord_91 rfl ?_
              refine g_iadd (n := 93) (z := v639 + 1) X dX12_oneWord_92 (by omega) rfl ?_
              refine gp_12_12 (n := 96) X (by decide) (gsz hsz (by decide)) lay_190 kw_6_38 dX12_oneWord_93 rfl ?_
              refine G.nm (fun M854 e855 => ?_)
              have IM854 : gI sz M854 := gI.set IM4 rc_190_12.1 (by omega) e855
              have CM854 : gC sz M854 := gC.set CM4 rc_190_12.2.1 e855
              refine g_iinc (n := 99) (w := v3 + 1) (L' := [(2, gJ (v3 + 1)), (1, gJ v640), (0, gA n0 190), (3, gJ v640), (4, gJ v641)]) X 2 dX12_oneWord_96 rfl rfl (by decide) rfl rfl ?_
              refine g_iconst (n := 100) X dX12_oneWord_99 rfl ?_
              refine g_istore (n := 102) (L' := [(4, gJ 0), (2, gJ (v3 + 1)), (1, gJ v640), (0, gA n0 190), (3, gJ v640)]) X dX12_oneWord_100 (by decide) rfl rfl ?_
              have j858 : ∀ (N914 : Nat) (v856 : Int) , (0 ≤ v856 ∧ v856 ≤ 10) → (10 - v856).toNat < N914 → G p l e R_X12_oneWord s m args below meth cd n0 D cA 5 Q 0 0 M854 sz 102 [(0, gA n0 190), (1, gJ v640), (2, gJ (v3 + 1)), (4, gJ v856)] [] := by
                intro N914; induction N914 with
                | zero => intro v856 rv856 hm916; exfalso; omega
                | succ N914 ih915 =>
                  intro v856 rv856 hm916
                  refine g_iload (n := 104) X 3 dX12_oneWord_102 rfl rfl ?_
                  refine g_bipush (n := 106) X dX12_oneWord_104 (by decide +kernel) rfl ?_
                  refine g_icmp_ge (n := 109) (tgt := 138) X dX12_oneWord_106 (by decide) (by omega) (by omega) rfl (fun c917 => ?_) (fun c917 => ?_)
                  · refine g_goto (tgt := 6) X dX12_oneWord_138 (by decide) ?_
                    refine G.sub (L' := [(0, gA n0 190), (1, gJ v640), (2, gJ (v3 + 1))]) [0, 1, 2] rfl ?_
                    exact ih637 v640 (v3 + 1) M854 (by omega) (by omega) IM854 CM854 (gFr.s (gFr.c gFr.rf FM4 rfl) e855 rc_190_12.2.2 rfl) (by have h1 := ((congrFun (congrFun e855 _) _).trans (gset_eq _ _ _ _)); omega) (by omega)
                  · refine g_iload_n (n := 110) X 1 dX12_oneWord_109 rfl rfl rfl ?_
                    refine g_iconst (n := 111) X dX12_oneWord_110 rfl ?_
                    refine g_iload (n := 113) X 3 dX12_oneWord_111 rfl rfl ?_
                    refine g_ishlA (n := 114) X dX12_oneWord_113 rfl (fun v918 rv918 xv918 => ?_)
                    clear xv918
                    refine g_icmp_ne (n := 117) (tgt := 132) X dX12_oneWord_114 (by decide) (by omega) (by omega) rfl (fun c919 => ?_) (fun c919 => ?_)
                    · refine g_iinc (n := 135) (w := v856 + 1) (L' := [(4, gJ (v856 + 1)), (0, gA n0 190), (1, gJ v640), (2, gJ (v3 + 1))]) X 3 dX12_oneWord_132 rfl rfl (by decide) rfl rfl ?_
                      refine g_goto (tgt := 102) X dX12_oneWord_135 (by decide) ?_
                      refine G.sub (L' := [(0, gA n0 190), (1, gJ v640), (2, gJ (v3 + 1)), (4, gJ (v856 + 1))]) [1, 2, 3, 0] rfl ?_
                      exact ih915 (v856 + 1) (by omega) (by omega)
                    · refine g_iload (n := 119) X 3 dX12_oneWord_117 rfl rfl ?_
                      refine g_callSs (n := 122) (As := [gJ v856]) (rest := []) (cs1 := 0) (ss1 := 0) X (c_X12_word v856 (by omega) (by omega)) okX12_word kw_7_11 kw_7_12 ⟨rfl, rfl⟩ ⟨Nat.le_of_ble_eq_true rfl, Nat.le_of_ble_eq_true rfl⟩ rfl rfl (Nat.le_of_ble_eq_true rfl) ⟨Nat.le_of_ble_eq_true rfl, Nat.le_of_ble_eq_true rfl⟩ rfl rfl dX12_oneWord_119 rfl (fun v920 M921 P922 => ?_)
                      obtain ⟨rfl, xv920⟩ := P922
                      obtain ⟨q923, hq923⟩ := gSO_at (z := v920) (by omega)
                      refine g_callSt (n := 125) (As := []) (rest := []) (cs1 := 0) (ss1 := 0) X (v920).toNat hq923 (s_J_len v920 (by omega)) okJ_len kw_7_24 ⟨kw_3_236, kw_3_237⟩ ⟨rfl, rfl⟩ ⟨Nat.le_of_ble_eq_true rfl, Nat.le_of_ble_eq_true rfl⟩ rfl rfl (Nat.le_of_ble_eq_true rfl) ⟨Nat.le_of_ble_eq_true rfl, Nat.le_of_ble_eq_true rfl⟩ rfl rfl dX12_oneWord_122 rfl (fun v924 M925 P926 => ?_)
                      obtain ⟨rfl, rv924, xv924⟩ := P926
                      have bv924 := gSL_m (z := v920) (by omega)
                      refine g_iload_n (n := 126) X 2 dX12_oneWord_125 rfl rfl rfl ?_
                      refine g_icmp_ne (n := 129) (tgt := 132) X dX12_oneWord_126 (by decide) (by omega) (by omega) rfl (fun c927 => ?_) (fun c927 => ?_)
                      · refine g_iinc (n := 135) (w := v856 + 1) (L' := [(4, gJ (v856 + 1)), (0, gA n0 190), (1, gJ v640), (2, gJ (v3 + 1))]) X 3 dX12_oneWord_132 rfl rfl (by decide) rfl rfl ?_
                        refine g_goto (tgt := 102) X dX12_oneWord_135 (by decide) ?_
                        refine G.sub (L' := [(0, gA n0 190), (1, gJ v640), (2, gJ (v3 + 1)), (4, gJ (v856 + 1))]) [1, 2, 3, 0] rfl ?_
                        exact ih915 (v856 + 1) (by omega) (by omega)
                      · refine g_iload (n := 131) X 3 dX12_oneWord_129 rfl rfl ?_
                        exact hq _ _ _ _ dX12_oneWord_131 ⟨by omega, IM854, CM854, (gFr.s (gFr.c gFr.rf FM4 rfl) e855 rc_190_12.2.2 rfl), by have q12 := ((congrFun (congrFun e855 _) _).trans (gset_eq _ _ _ _)); omega⟩
              refine G.sub (L' := [(0, gA n0 190), (1, gJ v640), (2, gJ (v3 + 1)), (4, gJ 0)]) [3, 2, 1, 0] rfl ?_
              exact j858 _ 0 (by omega) (Nat.lt_succ_self _)
            · refine g_aload_n (n := 78) X 0 dX12_oneWord_77 rfl rfl rfl ?_
              refine g_iconst (n := 79) X dX12_oneWord_78 rfl ?_
              refine gp_12_13 (n := 82) X (by decide) (gsz hsz (by decide)) lay_190 kw_6_39 (by omega) dX12_oneWord_79 rfl ?_
              refine G.nm (fun M928 e929 => ?_)
              have IM928 : gI sz M928 := gI.set IM4 rc_190_13.1 (by omega) e929
              have CM928 : gC sz M928 := gC.set CM4 rc_190_13.2.1 e929
              refine g_iconst (n := 83) X dX12_oneWord_82 rfl ?_
              exact hq _ _ _ _ dX12_oneWord_83 ⟨by omega, IM928, CM928, (gFr.s (gFr.c gFr.rf FM4 rfl) e929 rc_190_13.2.2 rfl), by have q12 := ((congrFun (congrFun e929 _) _).trans ((gset_ne (by omega)).trans hv639)); omega⟩
          · refine g_iload_n (n := 19) X 3 dX12_oneWord_18 rfl rfl rfl ?_
            refine g_iload_n (n := 20) X 1 dX12_oneWord_19 rfl rfl rfl ?_
            refine g_iload (n := 22) X 4 dX12_oneWord_20 rfl rfl ?_
            refine g_ishrA (n := 23) X dX12_oneWord_22 rfl (fun v930 rv930 xv930 => ?_)
            clear xv930
            refine g_iconst (n := 24) X dX12_oneWord_23 rfl ?_
            refine g_iandC (n := 25) X dX12_oneWord_24 (by decide) rfl (fun v931 rv931 xv931 => ?_)
            clear xv931
            refine g_iconst (n := 26) X dX12_oneWord_25 rfl ?_
            refine g_icmp_ne (n := 29) (tgt := 64) X dX12_oneWord_26 (by decide) (by omega) (by omega) rfl (fun c932 => ?_) (fun c932 => ?_)
            · refine g_iconst (n := 65) X dX12_oneWord_64 rfl ?_
              refine g_iorE (n := 66) (z := v640) X dX12_oneWord_65 (gi_or0 _) rfl ?_
              refine g_istore_n (n := 67) (L' := [(3, gJ v640), (0, gA n0 190), (1, gJ v2), (2, gJ v3), (4, gJ v641)]) X dX12_oneWord_66 rfl (by decide) rfl rfl ?_
              refine g_iinc (n := 70) (w := v641 + 1) (L' := [(4, gJ (v641 + 1)), (3, gJ v640), (0, gA n0 190), (1, gJ v2), (2, gJ v3)]) X 4 dX12_oneWord_67 rfl rfl (by decide) rfl rfl ?_
              refine g_goto (tgt := 11) X dX12_oneWord_70 (by decide) ?_
              refine G.sub (L' := [(0, gA n0 190), (1, gJ v2), (2, gJ v3), (3, gJ v640), (4, gJ (v641 + 1))]) [2, 3, 4, 1, 0] rfl ?_
              exact ih850 v640 (v641 + 1) (by omega) (by omega) (by omega) (by omega)
            · refine g_iload_n (n := 30) X 2 dX12_oneWord_29 rfl rfl rfl ?_
              refine g_iload (n := 32) X 4 dX12_oneWord_30 rfl rfl ?_
              refine g_callSs (n := 35) (As := [gJ v641]) (rest := [gJ v3, gJ v640]) (cs1 := 0) (ss1 := 0) X (c_X12_word v641 (by omega) (by omega)) okX12_word kw_7_11 kw_7_12 ⟨rfl, rfl⟩ ⟨Nat.le_of_ble_eq_true rfl, Nat.le_of_ble_eq_true rfl⟩ rfl rfl (Nat.le_of_ble_eq_true rfl) ⟨Nat.le_of_ble_eq_true rfl, Nat.le_of_ble_eq_true rfl⟩ rfl rfl dX12_oneWord_32 rfl (fun v933 M934 P935 => ?_)
              obtain ⟨rfl, xv933⟩ := P935
              obtain ⟨q936, hq936⟩ := gSO_at (z := v933) (by omega)
              refine g_callSt (n := 38) (As := []) (rest := [gJ v3, gJ v640]) (cs1 := 0) (ss1 := 0) X (v933).toNat hq936 (s_J_len v933 (by omega)) okJ_len kw_7_24 ⟨kw_3_236, kw_3_237⟩ ⟨rfl, rfl⟩ ⟨Nat.le_of_ble_eq_true rfl, Nat.le_of_ble_eq_true rfl⟩ rfl rfl (Nat.le_of_ble_eq_true rfl) ⟨Nat.le_of_ble_eq_true rfl, Nat.le_of_ble_eq_true rfl⟩ rfl rfl dX12_oneWord_35 rfl (fun v937 M938 P939 => ?_)
              obtain ⟨rfl, rv937, xv937⟩ := P939
              have bv937 := gSL_m (z := v933) (by omega)
              refine g_icmp_ge (n := 41) (tgt := 64) X dX12_oneWord_38 (by decide) (by omega) (by omega) rfl (fun c940 => ?_) (fun c940 => ?_)
              · refine g_iconst (n := 65) X dX12_oneWord_64 rfl ?_
                refine g_iorE (n := 66) (z := v640) X dX12_oneWord_65 (gi_or0 _) rfl ?_
                refine g_istore_n (n := 67) (L' := [(3, gJ v640), (0, gA n0 190), (1, gJ v2), (2, gJ v3), (4, gJ v641)]) X dX12_oneWord_66 rfl (by decide) rfl rfl ?_
                refine g_iinc (n := 70) (w := v641 + 1) (L' := [(4, gJ (v641 + 1)), (3, gJ v640), (0, gA n0 190), (1, gJ v2), (2, gJ v3)]) X 4 dX12_oneWord_67 rfl rfl (by decide) rfl rfl ?_
                refine g_goto (tgt := 11) X dX12_oneWord_70 (by decide) ?_
                refine G.sub (L' := [(0, gA n0 190), (1, gJ v2), (2, gJ v3), (3, gJ v640), (4, gJ (v641 + 1))]) [2, 3, 4, 1, 0] rfl ?_
                exact ih850 v640 (v641 + 1) (by omega) (by omega) (by omega) (by omega)
              · refine g_iload (n := 43) X 4 dX12_oneWord_41 rfl rfl ?_
                refine g_callSs (n := 46) (As := [gJ v641]) (rest := [gJ v640]) (cs1 := 0) (ss1 := 0) X (c_X12_word v641 (by omega) (by omega)) okX12_word kw_7_11 kw_7_12 ⟨rfl, rfl⟩ ⟨Nat.le_of_ble_eq_true rfl, Nat.le_of_ble_eq_true rfl⟩ rfl rfl (Nat.le_of_ble_eq_true rfl) ⟨Nat.le_of_ble_eq_true rfl, Nat.le_of_ble_eq_true rfl⟩ rfl rfl dX12_oneWord_43 rfl (fun v941 M942 P943 => ?_)
                obtain ⟨rfl, xv941⟩ := P943
                have yv941 : gSL v941 = gSL v933 := by rw [show v941 = v933 by omega]
                refine g_iload_n (n := 47) X 2 dX12_oneWord_46 rfl rfl rfl ?_
                obtain ⟨q944, hq944⟩ := gSO_at (z := v941) (by omega)
                refine g_callSt (n := 50) (As := [gJ v3]) (rest := [gJ v640]) (cs1 := 0) (ss1 := 0) X (v941).toNat hq944 (s_J_chr v941 (by omega) v3 (by omega) (by omega)) okJ_chr kw_7_25 ⟨kw_4_6, kw_4_7⟩ ⟨rfl, rfl⟩ ⟨Nat.le_of_ble_eq_true rfl, Nat.le_of_ble_eq_true rfl⟩ rfl rfl (Nat.le_of_ble_eq_true rfl) ⟨Nat.le_of_ble_eq_true rfl, Nat.le_of_ble_eq_true rfl⟩ rfl rfl dX12_oneWord_47 rfl (fun v945 M946 P947 => ?_)
                obtain ⟨rfl, rv945, xv945⟩ := P947
                refine g_aload_n (n := 51) X 0 dX12_oneWord_50 rfl rfl rfl ?_
                refine g_callVi (n := 54) (As := []) (rest := [gJ v945, gJ v640]) (cs1 := 0) (ss1 := 0) X (s_X12_here  hsz IM4 CM4 ) okX12_here kw_7_26 ⟨kw_7_28, kw_0_58⟩ ⟨rfl, rfl⟩ ⟨Nat.le_of_ble_eq_true rfl, Nat.le_of_ble_eq_true rfl⟩ rfl (by decide) (gsz hsz (by decide)) lay_190 rfl rfl (Nat.le_of_ble_eq_true rfl) ⟨Nat.le_of_ble_eq_true rfl, Nat.le_of_ble_eq_true rfl⟩ rfl rfl dX12_oneWord_51 rfl (fun v948 M949 P950 => ?_)
                obtain ⟨rfl, rv948, xv948⟩ := P950
                refine g_icmp_ne (n := 57) (tgt := 64) X dX12_oneWord_54 (by decide) (by omega) (by omega) rfl (fun c951 => ?_) (fun c951 => ?_)
                · refine g_iconst (n := 65) X dX12_oneWord_64 rfl ?_
                  refine g_iorE (n := 66) (z := v640) X dX12_oneWord_65 (gi_or0 _) rfl ?_
                  refine g_istore_n (n := 67) (L' := [(3, gJ v640), (0, gA n0 190), (1, gJ v2), (2, gJ v3), (4, gJ v641)]) X dX12_oneWord_66 rfl (by decide) rfl rfl ?_
                  refine g_iinc (n := 70) (w := v641 + 1) (L' := [(4, gJ (v641 + 1)), (3, gJ v640), (0, gA n0 190), (1, gJ v2), (2, gJ v3)]) X 4 dX12_oneWord_67 rfl rfl (by decide) rfl rfl ?_
                  refine g_goto (tgt := 11) X dX12_oneWord_70 (by decide) ?_
                  refine G.sub (L' := [(0, gA n0 190), (1, gJ v2), (2, gJ v3), (3, gJ v640), (4, gJ (v641 + 1))]) [2, 3, 4, 1, 0] rfl ?_
                  exact ih850 v640 (v641 + 1) (by omega) (by omega) (by omega) (by omega)
                · refine g_iconst (n := 58) X dX12_oneWord_57 rfl ?_
                  refine g_iload (n := 60) X 4 dX12_oneWord_58 rfl rfl ?_
                  refine g_ishlA (n := 61) X dX12_oneWord_60 rfl (fun v952 rv952 xv952 => ?_)
                  clear xv952
                  refine g_goto (tgt := 65) X dX12_oneWord_61 (by decide) ?_
                  refine g_iorA (n := 66) X dX12_oneWord_65 rfl (fun v953 rv953 xv953 => ?_)
                  clear xv953
                  refine g_istore_n (n := 67) (L' := [(3, gJ v953), (0, gA n0 190), (1, gJ v2), (2, gJ v3), (4, gJ v641)]) X dX12_oneWord_66 rfl (by decide) rfl rfl ?_
                  refine g_iinc (n := 70) (w := v641 + 1) (L' := [(4, gJ (v641 + 1)), (3, gJ v953), (0, gA n0 190), (1, gJ v2), (2, gJ v3)]) X 4 dX12_oneWord_67 rfl rfl (by decide) rfl rfl ?_
                  refine g_goto (tgt := 11) X dX12_oneWord_70 (by decide) ?_
                  refine G.sub (L' := [(0, gA n0 190), (1, gJ v2), (2, gJ v3), (3, gJ v953), (4, gJ (v641 + 1))]) [2, 3, 4, 1, 0] rfl ?_
                  exact ih850 v953 (v641 + 1) (by omega) (by omega) (by omega) (by omega)
      refine G.sub (L' := [(0, gA n0 190), (1, gJ v2), (2, gJ v3), (3, gJ 0), (4, gJ 0)]) [2, 3, 4, 1, 0] rfl ?_
      exact j643 _ 0 0 (by omega) (by omega) (by omega) (Nat.lt_succ_self _)
  refine G.sub (L' := [(0, gA n0 190), (1, gJ 1023), (2, gJ 0)]) [2, 1, 0] rfl ?_
  exact j5 _ 1023 0 M (by omega) (by omega) I C gFr.rf (by have h1 := hv1; omega) (Nat.lt_succ_self _)
theorem dX12_reads_0 : decode cX12_reads 0 = .ok (.bipush 8, 2) := dc_16 8 8 (by decide +kernel)
theorem dX12_reads_2 : decode cX12_reads 2 = .ok (.iload_n 1, 1) := dc_27 (by decide +kernel)
theorem dX12_reads_3 : decode cX12_reads 3 = .ok (.imul, 1) := dc_104 (by decide +kernel)
theorem dX12_reads_4 : decode cX12_reads 4 = .ok (.aload_n 0, 1) := dc_42 (by decide +kernel)
theorem dX12_reads_5 : decode cX12_reads 5 = .ok (.getfield 7, 3) := dc_180 0 7 (by decide +kernel)
theorem dX12_reads_8 : decode cX12_reads 8 = .ok (.sipush 24700, 3) := dc_17 96 124 24700 (by decide +kernel)
theorem dX12_reads_11 : decode cX12_reads 11 = .ok (.iload_n 1, 1) := dc_27 (by decide +kernel)
theorem dX12_reads_12 : decode cX12_reads 12 = .ok (.iadd, 1) := dc_96 (by decide +kernel)
theorem dX12_reads_13 : decode cX12_reads 13 = .ok (.iaload, 1) := dc_46 (by decide +kernel)
theorem dX12_reads_14 : decode cX12_reads 14 = .ok (.iadd, 1) := dc_96 (by decide +kernel)
theorem dX12_reads_15 : decode cX12_reads 15 = .ok (.istore_n 2, 1) := dc_61 (by decide +kernel)
theorem dX12_reads_16 : decode cX12_reads 16 = .ok (.aload_n 0, 1) := dc_42 (by decide +kernel)
theorem dX12_reads_17 : decode cX12_reads 17 = .ok (.invokevirtual 210, 3) := dc_182 0 210 (by decide +kernel)
theorem kw_7_7 : (Jvm.Cond.methodLink "ParishUnionModel" (210 : Nat) ({ cls := "ParishUnionModel", name := "oneWord", desc := "()I" } : Jvm.MethodName)) ∈ gT := gT_of (tb_7 _ (List.mem_of_getElem? (i := 7) rfl)) rfl
theorem kw_7_10 : (Jvm.Cond.code ({ cls := "ParishUnionModel", name := "oneWord", desc := "()I" } : Jvm.MethodName) prog_14_method_38_code (5 : Nat) (Option.some Jvm.ClassFile.FieldType.int)) ∈ gT := gT_of (tb_7 _ (List.mem_of_getElem? (i := 10) rfl)) rfl
theorem okX12_oneWord : gQok yX12_oneWord cX12_oneWord 5 (Option.some Jvm.ClassFile.FieldType.int) 0 := ⟨kw_7_10, kw_1_13, by decide +kernel, by decide +kernel, by decide +kernel⟩
theorem kw_7_9 : (Jvm.Cond.instanceMethod ({ cls := "ParishUnionModel", name := "oneWord", desc := "()I" } : Jvm.MethodName)) ∈ gT := gT_of (tb_7 _ (List.mem_of_getElem? (i := 9) rfl)) rfl
theorem kw_0_57 : (Jvm.Cond.selects "ParishUnionModel" ({ cls := "ParishUnionModel", name := "oneWord", desc := "()I" } : Jvm.MethodName) ({ cls := "ParishUnionModel", name := "oneWord", desc := "()I" } : Jvm.MethodName)) ∈ gT := gT_of (tb_0 _ (List.mem_of_getElem? (i := 57) rfl)) rfl
theorem dX12_reads_20 : decode cX12_reads 20 = .ok (.istore_n 3, 1) := dc_62 (by decide +kernel)
theorem dX12_reads_21 : decode cX12_reads 21 = .ok (.aload_n 0, 1) := dc_42 (by decide +kernel)
theorem dX12_reads_22 : decode cX12_reads 22 = .ok (.getfield 7, 3) := dc_180 0 7 (by decide +kernel)
theorem dX12_reads_25 : decode cX12_reads 25 = .ok (.sipush 24720, 3) := dc_17 96 144 24720 (by decide +kernel)
theorem dX12_reads_28 : decode cX12_reads 28 = .ok (.iload_n 2, 1) := dc_28 (by decide +kernel)
theorem dX12_reads_29 : decode cX12_reads 29 = .ok (.iadd, 1) := dc_96 (by decide +kernel)
theorem dX12_reads_30 : decode cX12_reads 30 = .ok (.iload_n 3, 1) := dc_29 (by decide +kernel)
theorem dX12_reads_31 : decode cX12_reads 31 = .ok (.iastore, 1) := dc_79 (by decide +kernel)
theorem dX12_reads_32 : decode cX12_reads 32 = .ok (.aload_n 0, 1) := dc_42 (by decide +kernel)
theorem dX12_reads_33 : decode cX12_reads 33 = .ok (.getfield 7, 3) := dc_180 0 7 (by decide +kernel)
theorem dX12_reads_36 : decode cX12_reads 36 = .ok (.sipush 24900, 3) := dc_17 97 68 24900 (by decide +kernel)
theorem dX12_reads_39 : decode cX12_reads 39 = .ok (.iload_n 2, 1) := dc_28 (by decide +kernel)
theorem dX12_reads_40 : decode cX12_reads 40 = .ok (.iadd, 1) := dc_96 (by decide +kernel)
theorem dX12_reads_41 : decode cX12_reads 41 = .ok (.iconst (-1), 1) := dc_2 (by decide +kernel)
theorem dX12_reads_42 : decode cX12_reads 42 = .ok (.iastore, 1) := dc_79 (by decide +kernel)
theorem dX12_reads_43 : decode cX12_reads 43 = .ok (.aload_n 0, 1) := dc_42 (by decide +kernel)
theorem dX12_reads_44 : decode cX12_reads 44 = .ok (.getfield 135, 3) := dc_180 0 135 (by decide +kernel)
theorem dX12_reads_47 : decode cX12_reads 47 = .ok (.ifCond .eq 4, 3) := dc_153 0 4 4 (by decide +kernel)
theorem dX12_reads_51 : decode cX12_reads 51 = .ok (.iload_n 3, 1) := dc_29 (by decide +kernel)
theorem dX12_reads_52 : decode cX12_reads 52 = .ok (.iconst 5, 1) := dc_8 (by decide +kernel)
theorem dX12_reads_53 : decode cX12_reads 53 = .ok (.if_icmp .eq 9, 3) := dc_159 0 9 9 (by decide +kernel)
theorem dX12_reads_62 : decode cX12_reads 62 = .ok (.aload_n 0, 1) := dc_42 (by decide +kernel)
theorem dX12_reads_63 : decode cX12_reads 63 = .ok (.getfield 7, 3) := dc_180 0 7 (by decide +kernel)
theorem dX12_reads_66 : decode cX12_reads 66 = .ok (.sipush 24810, 3) := dc_17 96 234 24810 (by decide +kernel)
theorem dX12_reads_69 : decode cX12_reads 69 = .ok (.iload_n 2, 1) := dc_28 (by decide +kernel)
theorem dX12_reads_70 : decode cX12_reads 70 = .ok (.iadd, 1) := dc_96 (by decide +kernel)
theorem dX12_reads_71 : decode cX12_reads 71 = .ok (.aload_n 0, 1) := dc_42 (by decide +kernel)
theorem dX12_reads_72 : decode cX12_reads 72 = .ok (.bipush 110, 2) := dc_16 110 110 (by decide +kernel)
theorem dX12_reads_74 : decode cX12_reads 74 = .ok (.bipush 121, 2) := dc_16 121 121 (by decide +kernel)
theorem dX12_reads_76 : decode cX12_reads 76 = .ok (.bipush 121, 2) := dc_16 121 121 (by decide +kernel)
theorem dX12_reads_78 : decode cX12_reads 78 = .ok (.invokevirtual 213, 3) := dc_182 0 213 (by decide +kernel)
theorem kw_7_30 : (Jvm.Cond.methodLink "ParishUnionModel" (213 : Nat) ({ cls := "ParishUnionModel", name := "letter", desc := "(III)I" } : Jvm.MethodName)) ∈ gT := gT_of (tb_7 _ (List.mem_of_getElem? (i := 30) rfl)) rfl
theorem kw_7_33 : (Jvm.Cond.code ({ cls := "ParishUnionModel", name := "letter", desc := "(III)I" } : Jvm.MethodName) prog_14_method_41_code (5 : Nat) (Option.some Jvm.ClassFile.FieldType.int)) ∈ gT := gT_of (tb_7 _ (List.mem_of_getElem? (i := 33) rfl)) rfl
theorem okX12_letter : gQok yX12_letter cX12_letter 5 (Option.some Jvm.ClassFile.FieldType.int) 3 := ⟨kw_7_33, kw_1_13, by decide +kernel, by decide +kernel, by decide +kernel⟩
theorem kw_7_32 : (Jvm.Cond.instanceMethod ({ cls := "ParishUnionModel", name := "letter", desc := "(III)I" } : Jvm.MethodName)) ∈ gT := gT_of (tb_7 _ (List.mem_of_getElem? (i := 32) rfl)) rfl
theorem kw_0_59 : (Jvm.Cond.selects "ParishUnionModel" ({ cls := "ParishUnionModel", name := "letter", desc := "(III)I" } : Jvm.MethodName) ({ cls := "ParishUnionModel", name := "letter", desc := "(III)I" } : Jvm.MethodName)) ∈ gT := gT_of (tb_0 _ (List.mem_of_getElem? (i := 59) rfl)) rfl
theorem dX12_reads_81 : decode cX12_reads 81 = .ok (.iastore, 1) := dc_79 (by decide +kernel)
theorem dX12_reads_82 : decode cX12_reads 82 = .ok (.goto 119, 3) := dc_167 0 119 119 (by decide +kernel)
theorem dX12_reads_201 : decode cX12_reads 201 = .ok (.iload_n 3, 1) := dc_29 (by decide +kernel)
theorem dX12_reads_202 : decode cX12_reads 202 = .ok (.bipush 8, 2) := dc_16 8 8 (by decide +kernel)
theorem dX12_reads_204 : decode cX12_reads 204 = .ok (.if_icmp .eq 9, 3) := dc_159 0 9 9 (by decide +kernel)
theorem dX12_reads_207 : decode cX12_reads 207 = .ok (.iload_n 3, 1) := dc_29 (by decide +kernel)
theorem dX12_reads_208 : decode cX12_reads 208 = .ok (.bipush 9, 2) := dc_16 9 9 (by decide +kernel)
theorem dX12_reads_210 : decode cX12_reads 210 = .ok (.if_icmp .ne 29, 3) := dc_160 0 29 29 (by decide +kernel)
theorem dX12_reads_239 : decode cX12_reads 239 = .ok (.aload_n 0, 1) := dc_42 (by decide +kernel)
theorem dX12_reads_240 : decode cX12_reads 240 = .ok (.getfield 7, 3) := dc_180 0 7 (by decide +kernel)
theorem dX12_reads_243 : decode cX12_reads 243 = .ok (.sipush 24700, 3) := dc_17 96 124 24700 (by decide +kernel)
theorem dX12_reads_246 : decode cX12_reads 246 = .ok (.iload_n 1, 1) := dc_27 (by decide +kernel)
theorem dX12_reads_247 : decode cX12_reads 247 = .ok (.iadd, 1) := dc_96 (by decide +kernel)
theorem dX12_reads_248 : decode cX12_reads 248 = .ok (.dup2, 1) := dc_92 (by decide +kernel)
theorem dX12_reads_249 : decode cX12_reads 249 = .ok (.iaload, 1) := dc_46 (by decide +kernel)
theorem dX12_reads_250 : decode cX12_reads 250 = .ok (.iconst 1, 1) := dc_4 (by decide +kernel)
theorem dX12_reads_251 : decode cX12_reads 251 = .ok (.iadd, 1) := dc_96 (by decide +kernel)
theorem dX12_reads_252 : decode cX12_reads 252 = .ok (.iastore, 1) := dc_79 (by decide +kernel)
theorem dX12_reads_253 : decode cX12_reads 253 = .ok (.return_, 1) := dc_177 (by decide +kernel)
theorem dX12_reads_56 : decode cX12_reads 56 = .ok (.iload_n 3, 1) := dc_29 (by decide +kernel)
theorem dX12_reads_57 : decode cX12_reads 57 = .ok (.bipush 6, 2) := dc_16 6 6 (by decide +kernel)
theorem dX12_reads_59 : decode cX12_reads 59 = .ok (.if_icmp .ne 26, 3) := dc_160 0 26 26 (by decide +kernel)
theorem dX12_reads_85 : decode cX12_reads 85 = .ok (.iload_n 3, 1) := dc_29 (by decide +kernel)
theorem dX12_reads_86 : decode cX12_reads 86 = .ok (.bipush 7, 2) := dc_16 7 7 (by decide +kernel)
theorem dX12_reads_88 : decode cX12_reads 88 = .ok (.if_icmp .ne 26, 3) := dc_160 0 26 26 (by decide +kernel)
theorem dX12_reads_114 : decode cX12_reads 114 = .ok (.iload_n 3, 1) := dc_29 (by decide +kernel)
theorem dX12_reads_115 : decode cX12_reads 115 = .ok (.bipush 9, 2) := dc_16 9 9 (by decide +kernel)
theorem dX12_reads_117 : decode cX12_reads 117 = .ok (.if_icmp .ne 69, 3) := dc_160 0 69 69 (by decide +kernel)
theorem dX12_reads_186 : decode cX12_reads 186 = .ok (.aload_n 0, 1) := dc_42 (by decide +kernel)
theorem dX12_reads_187 : decode cX12_reads 187 = .ok (.getfield 7, 3) := dc_180 0 7 (by decide +kernel)
theorem dX12_reads_190 : decode cX12_reads 190 = .ok (.sipush 24810, 3) := dc_17 96 234 24810 (by decide +kernel)
theorem dX12_reads_193 : decode cX12_reads 193 = .ok (.iload_n 2, 1) := dc_28 (by decide +kernel)
theorem dX12_reads_194 : decode cX12_reads 194 = .ok (.iadd, 1) := dc_96 (by decide +kernel)
theorem dX12_reads_195 : decode cX12_reads 195 = .ok (.aload_n 0, 1) := dc_42 (by decide +kernel)
theorem dX12_reads_196 : decode cX12_reads 196 = .ok (.iconst 4, 1) := dc_7 (by decide +kernel)
theorem dX12_reads_197 : decode cX12_reads 197 = .ok (.invokevirtual 201, 3) := dc_182 0 201 (by decide +kernel)
theorem dX12_reads_200 : decode cX12_reads 200 = .ok (.iastore, 1) := dc_79 (by decide +kernel)
theorem dX12_reads_213 : decode cX12_reads 213 = .ok (.aload_n 0, 1) := dc_42 (by decide +kernel)
theorem dX12_reads_214 : decode cX12_reads 214 = .ok (.bipush 32, 2) := dc_16 32 32 (by decide +kernel)
theorem dX12_reads_216 : decode cX12_reads 216 = .ok (.invokevirtual 195, 3) := dc_182 0 195 (by decide +kernel)
theorem dX12_reads_219 : decode cX12_reads 219 = .ok (.aload_n 0, 1) := dc_42 (by decide +kernel)
theorem dX12_reads_220 : decode cX12_reads 220 = .ok (.getfield 7, 3) := dc_180 0 7 (by decide +kernel)
theorem dX12_reads_223 : decode cX12_reads 223 = .ok (.sipush 24900, 3) := dc_17 97 68 24900 (by decide +kernel)
theorem dX12_reads_226 : decode cX12_reads 226 = .ok (.iload_n 2, 1) := dc_28 (by decide +kernel)
theorem dX12_reads_227 : decode cX12_reads 227 = .ok (.iadd, 1) := dc_96 (by decide +kernel)
theorem dX12_reads_228 : decode cX12_reads 228 = .ok (.aload_n 0, 1) := dc_42 (by decide +kernel)
theorem dX12_reads_229 : decode cX12_reads 229 = .ok (.getfield 129, 3) := dc_180 0 129 (by decide +kernel)
theorem dX12_reads_232 : decode cX12_reads 232 = .ok (.iastore, 1) := dc_79 (by decide +kernel)
theorem dX12_reads_233 : decode cX12_reads 233 = .ok (.aload_n 0, 1) := dc_42 (by decide +kernel)
theorem dX12_reads_234 : decode cX12_reads 234 = .ok (.invokevirtual 192, 3) := dc_182 0 192 (by decide +kernel)
theorem dX12_reads_237 : decode cX12_reads 237 = .ok (.istore 4, 2) := dc_54 4 (by decide +kernel)
theorem dX12_reads_120 : decode cX12_reads 120 = .ok (.aload_n 0, 1) := dc_42 (by decide +kernel)
theorem dX12_reads_121 : decode cX12_reads 121 = .ok (.invokevirtual 139, 3) := dc_182 0 139 (by decide +kernel)
theorem dX12_reads_124 : decode cX12_reads 124 = .ok (.istore 4, 2) := dc_54 4 (by decide +kernel)
theorem dX12_reads_126 : decode cX12_reads 126 = .ok (.aload_n 0, 1) := dc_42 (by decide +kernel)
theorem dX12_reads_127 : decode cX12_reads 127 = .ok (.iload 4, 2) := dc_21 4 (by decide +kernel)
theorem dX12_reads_129 : decode cX12_reads 129 = .ok (.bipush 48, 2) := dc_16 48 48 (by decide +kernel)
theorem dX12_reads_131 : decode cX12_reads 131 = .ok (.bipush 51, 2) := dc_16 51 51 (by decide +kernel)
theorem dX12_reads_133 : decode cX12_reads 133 = .ok (.invokestatic 64, 3) := dc_184 0 64 (by decide +kernel)
theorem dX12_reads_136 : decode cX12_reads 136 = .ok (.ifCond .ne 7, 3) := dc_154 0 7 7 (by decide +kernel)
theorem dX12_reads_143 : decode cX12_reads 143 = .ok (.iconst 0, 1) := dc_3 (by decide +kernel)
theorem dX12_reads_144 : decode cX12_reads 144 = .ok (.putfield 135, 3) := dc_181 0 135 (by decide +kernel)
theorem dX12_reads_147 : decode cX12_reads 147 = .ok (.aload_n 0, 1) := dc_42 (by decide +kernel)
theorem dX12_reads_148 : decode cX12_reads 148 = .ok (.dup, 1) := dc_89 (by decide +kernel)
theorem dX12_reads_149 : decode cX12_reads 149 = .ok (.getfield 129, 3) := dc_180 0 129 (by decide +kernel)
theorem dX12_reads_152 : decode cX12_reads 152 = .ok (.aload_n 0, 1) := dc_42 (by decide +kernel)
theorem dX12_reads_153 : decode cX12_reads 153 = .ok (.getfield 135, 3) := dc_180 0 135 (by decide +kernel)
theorem dX12_reads_156 : decode cX12_reads 156 = .ok (.ifCond .eq 7, 3) := dc_153 0 7 7 (by decide +kernel)
theorem dX12_reads_163 : decode cX12_reads 163 = .ok (.iconst 1, 1) := dc_4 (by decide +kernel)
theorem dX12_reads_164 : decode cX12_reads 164 = .ok (.iadd, 1) := dc_96 (by decide +kernel)
theorem dX12_reads_165 : decode cX12_reads 165 = .ok (.putfield 129, 3) := dc_181 0 129 (by decide +kernel)
theorem dX12_reads_168 : decode cX12_reads 168 = .ok (.aload_n 0, 1) := dc_42 (by decide +kernel)
theorem dX12_reads_169 : decode cX12_reads 169 = .ok (.getfield 7, 3) := dc_180 0 7 (by decide +kernel)
theorem dX12_reads_172 : decode cX12_reads 172 = .ok (.sipush 24810, 3) := dc_17 96 234 24810 (by decide +kernel)
theorem dX12_reads_175 : decode cX12_reads 175 = .ok (.iload_n 2, 1) := dc_28 (by decide +kernel)
theorem dX12_reads_176 : decode cX12_reads 176 = .ok (.iadd, 1) := dc_96 (by decide +kernel)
theorem dX12_reads_177 : decode cX12_reads 177 = .ok (.iload 4, 2) := dc_21 4 (by decide +kernel)
theorem dX12_reads_179 : decode cX12_reads 179 = .ok (.bipush 48, 2) := dc_16 48 48 (by decide +kernel)
theorem dX12_reads_181 : decode cX12_reads 181 = .ok (.isub, 1) := dc_100 (by decide +kernel)
theorem dX12_reads_182 : decode cX12_reads 182 = .ok (.iastore, 1) := dc_79 (by decide +kernel)
theorem dX12_reads_183 : decode cX12_reads 183 = .ok (.goto 18, 3) := dc_167 0 18 18 (by decide +kernel)
theorem dX12_reads_139 : decode cX12_reads 139 = .ok (.iconst 1, 1) := dc_4 (by decide +kernel)
theorem dX12_reads_140 : decode cX12_reads 140 = .ok (.goto 4, 3) := dc_167 0 4 4 (by decide +kernel)
theorem dX12_reads_159 : decode cX12_reads 159 = .ok (.iconst 0, 1) := dc_3 (by decide +kernel)
theorem dX12_reads_160 : decode cX12_reads 160 = .ok (.goto 4, 3) := dc_167 0 4 4 (by decide +kernel)
theorem dX12_reads_91 : decode cX12_reads 91 = .ok (.aload_n 0, 1) := dc_42 (by decide +kernel)
theorem dX12_reads_92 : decode cX12_reads 92 = .ok (.getfield 7, 3) := dc_180 0 7 (by decide +kernel)
theorem dX12_reads_95 : decode cX12_reads 95 = .ok (.sipush 24810, 3) := dc_17 96 234 24810 (by decide +kernel)
theorem dX12_reads_98 : decode cX12_reads 98 = .ok (.iload_n 2, 1) := dc_28 (by decide +kernel)
theorem dX12_reads_99 : decode cX12_reads 99 = .ok (.iadd, 1) := dc_96 (by decide +kernel)
theorem dX12_reads_100 : decode cX12_reads 100 = .ok (.aload_n 0, 1) := dc_42 (by decide +kernel)
theorem dX12_reads_101 : decode cX12_reads 101 = .ok (.bipush 114, 2) := dc_16 114 114 (by decide +kernel)
theorem dX12_reads_103 : decode cX12_reads 103 = .ok (.bipush 104, 2) := dc_16 104 104 (by decide +kernel)
theorem dX12_reads_105 : decode cX12_reads 105 = .ok (.bipush 101, 2) := dc_16 101 101 (by decide +kernel)
theorem dX12_reads_107 : decode cX12_reads 107 = .ok (.invokevirtual 213, 3) := dc_182 0 213 (by decide +kernel)
theorem dX12_reads_110 : decode cX12_reads 110 = .ok (.iastore, 1) := dc_79 (by decide +kernel)
theorem dX12_reads_111 : decode cX12_reads 111 = .ok (.goto 90, 3) := dc_167 0 90 90 (by decide +kernel)
theorem dX12_reads_50 : decode cX12_reads 50 = .ok (.return_, 1) := dc_177 (by decide +kernel)
abbrev R_X12_reads : Room := { frames := 131, cells := 0, slots := 0, locals := 5582 }
set_option maxRecDepth 100000 in
set_option maxHeartbeats 4000000 in
theorem s_X12_reads {l : Launch} {n0 : Nat} {D : va_G} {cA : Nat → ClassId} {M : gM} (a : Int) (r_a : 0 ≤ a ∧ a ≤ 10) {sz : Nat} (hsz : 206 ≤ sz) (I : gI sz M) (C : gC sz M) (W : gW 191 M) (hk : M 190 15 = -1 ∨ M 190 15 < M 191 1) (ho : 0 ≤ M 190 14 ∧ M 190 14 ≤ 6) (hl : M 191 (a + 24700) ≤ 7)  : Met l yX12_reads (gWsOf yX12_reads cX12_reads 5 (Option.none : Option Jvm.ClassFile.FieldType)) R_X12_reads (gPc n0 D cA [gA n0 190, gJ a] M sz) (gQv n0 D cA sz (fun M1 => gI sz M1 ∧ gC sz M1 ∧ gFr 2475881517421301898770644992 M M1 ∧ (M 190 12 ≤ M1 190 12 ∧ M1 190 14 = M 190 14))) 0 0 (fun q => n0 ≤ q) := by
  refine gMetV [gA n0 190, gJ a] (by decide) (Nat.le_of_ble_eq_true rfl) ⟨rfl, rfl⟩ ?_
  intro p e s m args below meth cd Q X hq
  have X : gCx p s m args meth cd n0 D cA "ParishUnionModel" cX12_reads 5 := X
  show G p l e R_X12_reads s m args below meth cd n0 D cA 5 Q 0 0 M sz 0 [(0, gA n0 190), (1, gJ a)] []
  obtain ⟨v1, hv1, rv1⟩ := gRd I (by decide) (gsz hsz (by decide)) rc_190_12.1
  obtain ⟨v2, hv2, rv2⟩ := gRd I (by decide) (gsz hsz (by decide)) rc_190_14.1
  obtain ⟨v3, hv3, rv3⟩ := gRd I (by decide) (gsz hsz (by decide)) rc_190_15.1
  obtain ⟨v4, hv4, rv4⟩ := gRd I (by decide) (gsz hsz (by decide)) (rs_PERS (k := 1) (by omega)).1
  obtain ⟨v5, hv5, rv5⟩ := gRd I (by decide) (gsz hsz (by decide)) (rs_LCOUNT (k := a + 24700) (by omega)).1
  refine g_bipush (n := 2) X dX12_reads_0 (by decide +kernel) rfl ?_
  refine g_iload_n (n := 3) X 1 dX12_reads_2 rfl rfl rfl ?_
  refine g_imul (n := 4) (z := 8 * a) X dX12_reads_3 rfl rfl ?_
  refine g_aload_n (n := 5) X 0 dX12_reads_4 rfl rfl rfl ?_
  refine gg_12_1 (n := 8) (z := 191) X (by decide) (gsz hsz (by decide)) lay_190 kw_6_27 dX12_reads_5 rfl (rf_190_1 I (gsz hsz (by decide))) (by decide) ?_
  refine g_sipush (n := 11) X dX12_reads_8 (by decide +kernel) rfl ?_
  refine g_iload_n (n := 12) X 1 dX12_reads_11 rfl rfl rfl ?_
  refine g_iadd (n := 13) (z := a + 24700) X dX12_reads_12 (by omega) rfl ?_
  refine g_iald2 (n := 14) (v := v5) X (by decide) (gsz hsz (by decide)) lay_191 (by omega) (by omega) (by decide) dX12_reads_13 rfl hv5 ?_
  refine g_iadd (n := 15) (z := (8 * a) + v5) X dX12_reads_14 rfl rfl ?_
  refine g_istore_n (n := 16) (L' := [(2, gJ ((8 * a) + v5)), (0, gA n0 190), (1, gJ a)]) X dX12_reads_15 rfl (by decide) rfl rfl ?_
  refine g_aload_n (n := 17) X 1 dX12_reads_16 rfl rfl rfl ?_
  refine g_callVi (n := 20) (As := []) (rest := []) (cs1 := 0) (ss1 := 0) X (s_X12_oneWord  hsz I C ) okX12_oneWord kw_7_7 ⟨kw_7_9, kw_0_57⟩ ⟨rfl, rfl⟩ ⟨Nat.le_of_ble_eq_true rfl, Nat.le_of_ble_eq_true rfl⟩ rfl (by decide) (gsz hsz (by decide)) lay_190 rfl rfl (Nat.le_of_ble_eq_true rfl) ⟨Nat.le_of_ble_eq_true rfl, Nat.le_of_ble_eq_true rfl⟩ rfl rfl dX12_reads_17 rfl (fun v6 M7 P8 => ?_)
  obtain ⟨rv6, IM7, CM7, FM7, xM7⟩ := P8
  obtain ⟨v9, hv9, rv9⟩ := gRd IM7 (by decide) (gsz hsz (by decide)) rc_190_12.1
  refine g_istore_n (n := 21) (L' := [(3, gJ v6), (2, gJ ((8 * a) + v5)), (0, gA n0 190), (1, gJ a)]) X dX12_reads_20 rfl (by decide) rfl rfl ?_
  refine g_aload_n (n := 22) X 2 dX12_reads_21 rfl rfl rfl ?_
  refine gg_12_1 (n := 25) (z := 191) X (by decide) (gsz hsz (by decide)) lay_190 kw_6_27 dX12_reads_22 rfl (rf_190_1 IM7 (gsz hsz (by decide))) (by decide) ?_
  refine g_sipush (n := 28) X dX12_reads_25 (by decide +kernel) rfl ?_
  refine g_iload_n (n := 29) X 1 dX12_reads_28 rfl rfl rfl ?_
  refine g_iadd (n := 30) (z := 24720 + ((8 * a) + v5)) X dX12_reads_29 rfl rfl ?_
  refine g_iload_n (n := 31) X 0 dX12_reads_30 rfl rfl rfl ?_
  refine g_iast (n := 32) X (by decide) (gsz hsz (by decide)) lay_191 (by omega) (by omega) (by decide) dX12_reads_31 rfl ?_
  refine G.nm (fun M10 e11 => ?_)
  have IM10 : gI sz M10 := gI.set IM7 (rs_LWORD (k := 24720 + ((8 * a) + v5)) (by omega)).1 (by omega) e11
  have CM10 : gC sz M10 := gC.set CM7 (rs_LWORD (k := 24720 + ((8 * a) + v5)) (by omega)).2.1 e11
  refine g_aload_n (n := 33) X 2 dX12_reads_32 rfl rfl rfl ?_
  refine gg_12_1 (n := 36) (z := 191) X (by decide) (gsz hsz (by decide)) lay_190 kw_6_27 dX12_reads_33 rfl (rf_190_1 IM10 (gsz hsz (by decide))) (by decide) ?_
  refine g_sipush (n := 39) X dX12_reads_36 (by decide +kernel) rfl ?_
  refine g_iload_n (n := 40) X 1 dX12_reads_39 rfl rfl rfl ?_
  refine g_iadd (n := 41) (z := 24900 + ((8 * a) + v5)) X dX12_reads_40 rfl rfl ?_
  refine g_iconst (n := 42) X dX12_reads_41 rfl ?_
  refine g_iast (n := 43) X (by decide) (gsz hsz (by decide)) lay_191 (by omega) (by omega) (by decide) dX12_reads_42 rfl ?_
  refine G.nm (fun M12 e13 => ?_)
  have IM12 : gI sz M12 := gI.set IM10 (rs_LSPOT (k := 24900 + ((8 * a) + v5)) (by omega)).1 (by omega) e13
  have CM12 : gC sz M12 := gC.set CM10 (rs_LSPOT (k := 24900 + ((8 * a) + v5)) (by omega)).2.1 e13
  refine g_aload_n (n := 44) X 2 dX12_reads_43 rfl rfl rfl ?_
  obtain ⟨v14, hv14, rv14⟩ := gRd IM12 (by decide) (gsz hsz (by decide)) rc_190_13.1
  refine gg_12_13 (n := 47) (z := v14) X (by decide) (gsz hsz (by decide)) lay_190 kw_6_39 dX12_reads_44 rfl hv14 ?_
  refine g_if_eq (n := 50) (tgt := 51) X dX12_reads_47 (by decide) (by omega) rfl (fun c15 => ?_) (fun c15 => ?_)
  · refine g_iload_n (n := 52) X 0 dX12_reads_51 rfl rfl rfl ?_
    refine g_iconst (n := 53) X dX12_reads_52 rfl ?_
    refine g_icmp_eq (n := 56) (tgt := 62) X dX12_reads_53 (by decide) (by omega) (by omega) rfl (fun c16 => ?_) (fun c16 => ?_)
    · refine g_aload_n (n := 63) X 2 dX12_reads_62 rfl rfl rfl ?_
      refine gg_12_1 (n := 66) (z := 191) X (by decide) (gsz hsz (by decide)) lay_190 kw_6_27 dX12_reads_63 rfl (rf_190_1 IM12 (gsz hsz (by decide))) (by decide) ?_
      refine g_sipush (n := 69) X dX12_reads_66 (by decide +kernel) rfl ?_
      refine g_iload_n (n := 70) X 1 dX12_reads_69 rfl rfl rfl ?_
      refine g_iadd (n := 71) (z := 24810 + ((8 * a) + v5)) X dX12_reads_70 rfl rfl ?_
      refine g_aload_n (n := 72) X 2 dX12_reads_71 rfl rfl rfl ?_
      refine g_bipush (n := 74) X dX12_reads_72 (by decide +kernel) rfl ?_
      refine g_bipush (n := 76) X dX12_reads_74 (by decide +kernel) rfl ?_
      refine g_bipush (n := 78) X dX12_reads_76 (by decide +kernel) rfl ?_
      have tM12_12 : M12 190 12 = v9 := ((congrFun (congrFun e13 _) _).trans ((gset_ne (by omega)).trans ((congrFun (congrFun e11 _) _).trans ((gset_ne (by omega)).trans hv9))))
      refine g_callVi (n := 81) (As := [gJ 110, gJ 121, gJ 121]) (rest := [gJ (24810 + ((8 * a) + v5)), gA n0 191]) (cs1 := 0) (ss1 := 0) X (s_X12_letter 110 (by omega) 121 (by omega) 121 (by omega) hsz IM12 CM12 ) okX12_letter kw_7_30 ⟨kw_7_32, kw_0_59⟩ ⟨rfl, rfl⟩ ⟨Nat.le_of_ble_eq_true rfl, Nat.le_of_ble_eq_true rfl⟩ rfl (by decide) (gsz hsz (by decide)) lay_190 rfl rfl (Nat.le_of_ble_eq_true rfl) ⟨Nat.le_of_ble_eq_true rfl, Nat.le_of_ble_eq_true rfl⟩ rfl rfl dX12_reads_78 rfl (fun v17 M18 P19 => ?_)
      obtain ⟨rv17, IM18, CM18, FM18, xM18⟩ := P19
      obtain ⟨v20, hv20, rv20⟩ := gRd IM18 (by decide) (gsz hsz (by decide)) rc_190_12.1
      refine g_iast (n := 82) X (by decide) (gsz hsz (by decide)) lay_191 (by omega) (by omega) (by decide) dX12_reads_81 rfl ?_
      refine G.nm (fun M21 e22 => ?_)
      have IM21 : gI sz M21 := gI.set IM18 (rs_LVALUE (k := 24810 + ((8 * a) + v5)) (by omega)).1 (by omega) e22
      have CM21 : gC sz M21 := gC.set CM18 (rs_LVALUE (k := 24810 + ((8 * a) + v5)) (by omega)).2.1 e22
      refine g_goto (tgt := 201) X dX12_reads_82 (by decide) ?_
      refine g_iload_n (n := 202) X 0 dX12_reads_201 rfl rfl rfl ?_
      refine g_bipush (n := 204) X dX12_reads_202 (by decide +kernel) rfl ?_
      refine g_icmp_eq (n := 207) (tgt := 213) X dX12_reads_204 (by decide) (by omega) (by omega) rfl (fun c23 => by exfalso; omega) (fun c23 => ?_)
      refine g_iload_n (n := 208) X 0 dX12_reads_207 rfl rfl rfl ?_
      refine g_bipush (n := 210) X dX12_reads_208 (by decide +kernel) rfl ?_
      refine g_icmp_ne (n := 213) (tgt := 239) X dX12_reads_210 (by decide) (by omega) (by omega) rfl (fun c24 => ?_) (fun c24 => by exfalso; omega)
      refine g_aload_n (n := 240) X 2 dX12_reads_239 rfl rfl rfl ?_
      refine gg_12_1 (n := 243) (z := 191) X (by decide) (gsz hsz (by decide)) lay_190 kw_6_27 dX12_reads_240 rfl (rf_190_1 IM21 (gsz hsz (by decide))) (by decide) ?_
      refine g_sipush (n := 246) X dX12_reads_243 (by decide +kernel) rfl ?_
      refine g_iload_n (n := 247) X 3 dX12_reads_246 rfl rfl rfl ?_
      refine g_iadd (n := 248) (z := a + 24700) X dX12_reads_247 (by omega) rfl ?_
      refine g_dup2 (n := 249) X dX12_reads_248 rfl rfl rfl ?_
      refine g_iald2 (n := 250) (v := v5) X (by decide) (gsz hsz (by decide)) lay_191 (by omega) (by omega) (by decide) dX12_reads_249 rfl ((congrFun (congrFun e22 _) _).trans ((gset_ne (by omega)).trans ((gFr.at FM18 (rs_LCOUNT (k := a + 24700) (by omega)).2.2 rfl).trans ((congrFun (congrFun e13 _) _).trans ((gset_ne (by omega)).trans ((congrFun (congrFun e11 _) _).trans ((gset_ne (by omega)).trans ((gFr.at FM7 (rs_LCOUNT (k := a + 24700) (by omega)).2.2 rfl).trans hv5)))))))) ?_
      refine g_iconst (n := 251) X dX12_reads_250 rfl ?_
      refine g_iadd (n := 252) (z := v5 + 1) X dX12_reads_251 (by omega) rfl ?_
      refine g_iast (n := 253) X (by decide) (gsz hsz (by decide)) lay_191 (by omega) (by omega) (by decide) dX12_reads_252 rfl ?_
      refine G.nm (fun M25 e26 => ?_)
      have IM25 : gI sz M25 := gI.set IM21 (rs_LCOUNT (k := a + 24700) (by omega)).1 (by omega) e26
      have CM25 : gC sz M25 := gC.set CM21 (rs_LCOUNT (k := a + 24700) (by omega)).2.1 e26
      exact hq _ _ _ dX12_reads_253 ⟨IM25, CM25, (gFr.s (gFr.s (gFr.c (gFr.s (gFr.s (gFr.c gFr.rf FM7 rfl) e11 (rs_LWORD (k := 24720 + ((8 * a) + v5)) (by omega)).2.2 rfl) e13 (rs_LSPOT (k := 24900 + ((8 * a) + v5)) (by omega)).2.2 rfl) FM18 rfl) e22 (rs_LVALUE (k := 24810 + ((8 * a) + v5)) (by omega)).2.2 rfl) e26 (rs_LCOUNT (k := a + 24700) (by omega)).2.2 rfl), by have q12 := ((congrFun (congrFun e26 _) _).trans ((gset_ne (by omega)).trans ((congrFun (congrFun e22 _) _).trans ((gset_ne (by omega)).trans hv20)))); have q14 := ((congrFun (congrFun e26 _) _).trans ((gset_ne (by omega)).trans ((congrFun (congrFun e22 _) _).trans ((gset_ne (by omega)).trans ((gFr.at FM18 rc_190_14.2.2 rfl).trans ((congrFun (congrFun e13 _) _).trans ((gset_ne (by omega)).trans ((congrFun (congrFun e11 _) _).trans ((gset_ne (by omega)).trans ((gFr.at FM7 rc_190_14.2.2 rfl).trans hv2)))))))))); omega⟩
    · refine g_iload_n (n := 57) X 0 dX12_reads_56 rfl rfl rfl ?_
      refine g_bipush (n := 59) X dX12_reads_57 (by decide +kernel) rfl ?_
      refine g_icmp_ne (n := 62) (tgt := 85) X dX12_reads_59 (by decide) (by omega) (by omega) rfl (fun c27 => ?_) (fun c27 => ?_)
      · refine g_iload_n (n := 86) X 0 dX12_reads_85 rfl rfl rfl ?_
        refine g_bipush (n := 88) X dX12_reads_86 (by decide +kernel) rfl ?_
        refine g_icmp_ne (n := 91) (tgt := 114) X dX12_reads_88 (by decide) (by omega) (by omega) rfl (fun c28 => ?_) (fun c28 => ?_)
        · refine g_iload_n (n := 115) X 0 dX12_reads_114 rfl rfl rfl ?_
          refine g_bipush (n := 117) X dX12_reads_115 (by decide +kernel) rfl ?_
          refine g_icmp_ne (n := 120) (tgt := 186) X dX12_reads_117 (by decide) (by omega) (by omega) rfl (fun c29 => ?_) (fun c29 => ?_)
          · refine g_aload_n (n := 187) X 2 dX12_reads_186 rfl rfl rfl ?_
            refine gg_12_1 (n := 190) (z := 191) X (by decide) (gsz hsz (by decide)) lay_190 kw_6_27 dX12_reads_187 rfl (rf_190_1 IM12 (gsz hsz (by decide))) (by decide) ?_
            refine g_sipush (n := 193) X dX12_reads_190 (by decide +kernel) rfl ?_
            refine g_iload_n (n := 194) X 1 dX12_reads_193 rfl rfl rfl ?_
            refine g_iadd (n := 195) (z := 24810 + ((8 * a) + v5)) X dX12_reads_194 rfl rfl ?_
            refine g_aload_n (n := 196) X 2 dX12_reads_195 rfl rfl rfl ?_
            refine g_iconst (n := 197) X dX12_reads_196 rfl ?_
            have tM12_12 : M12 190 12 = v9 := ((congrFun (congrFun e13 _) _).trans ((gset_ne (by omega)).trans ((congrFun (congrFun e11 _) _).trans ((gset_ne (by omega)).trans hv9))))
            refine g_callVi (n := 200) (As := [gJ 4]) (rest := [gJ (24810 + ((8 * a) + v5)), gA n0 191]) (cs1 := 0) (ss1 := 0) X (s_X12_number 4 (by omega) hsz IM12 CM12 ) okX12_number kw_7_34 ⟨kw_7_36, kw_0_60⟩ ⟨rfl, rfl⟩ ⟨Nat.le_of_ble_eq_true rfl, Nat.le_of_ble_eq_true rfl⟩ rfl (by decide) (gsz hsz (by decide)) lay_190 rfl rfl (Nat.le_of_ble_eq_true rfl) ⟨Nat.le_of_ble_eq_true rfl, Nat.le_of_ble_eq_true rfl⟩ rfl rfl dX12_reads_197 rfl (fun v30 M31 P32 => ?_)
            obtain ⟨rv30, IM31, CM31, FM31, xM31⟩ := P32
            obtain ⟨v33, hv33, rv33⟩ := gRd IM31 (by decide) (gsz hsz (by decide)) rc_190_12.1
            refine g_iast (n := 201) X (by decide) (gsz hsz (by decide)) lay_191 (by omega) (by omega) (by decide) dX12_reads_200 rfl ?_
            refine G.nm (fun M34 e35 => ?_)
            have IM34 : gI sz M34 := gI.set IM31 (rs_LVALUE (k := 24810 + ((8 * a) + v5)) (by omega)).1 (by omega) e35
            have CM34 : gC sz M34 := gC.set CM31 (rs_LVALUE (k := 24810 + ((8 * a) + v5)) (by omega)).2.1 e35
            refine g_iload_n (n := 202) X 0 dX12_reads_201 rfl rfl rfl ?_
            refine g_bipush (n := 204) X dX12_reads_202 (by decide +kernel) rfl ?_
            refine g_icmp_eq (n := 207) (tgt := 213) X dX12_reads_204 (by decide) (by omega) (by omega) rfl (fun c36 => ?_) (fun c36 => ?_)
            · refine g_aload_n (n := 214) X 2 dX12_reads_213 rfl rfl rfl ?_
              refine g_bipush (n := 216) X dX12_reads_214 (by decide +kernel) rfl ?_
              have tM34_12 : M34 190 12 = v33 := ((congrFun (congrFun e35 _) _).trans ((gset_ne (by omega)).trans hv33))
              refine g_callVv (n := 219) (As := [gJ 32]) (rest := []) (cs1 := 0) (ss1 := 0) X (s_X12_must 32 (by omega) hsz IM34 CM34 ) okX12_must kw_7_42 ⟨kw_7_44, kw_0_62⟩ ⟨rfl, rfl⟩ ⟨Nat.le_of_ble_eq_true rfl, Nat.le_of_ble_eq_true rfl⟩ rfl (by decide) (gsz hsz (by decide)) lay_190 rfl rfl (Nat.le_of_ble_eq_true rfl) ⟨Nat.le_of_ble_eq_true rfl, Nat.le_of_ble_eq_true rfl⟩ rfl rfl dX12_reads_216 rfl (fun M38 P39 => ?_)
              obtain ⟨IM38, CM38, FM38, xM38⟩ := P39
              obtain ⟨v40, hv40, rv40⟩ := gRd IM38 (by decide) (gsz hsz (by decide)) rc_190_12.1
              refine g_aload_n (n := 220) X 2 dX12_reads_219 rfl rfl rfl ?_
              refine gg_12_1 (n := 223) (z := 191) X (by decide) (gsz hsz (by decide)) lay_190 kw_6_27 dX12_reads_220 rfl (rf_190_1 IM38 (gsz hsz (by decide))) (by decide) ?_
              refine g_sipush (n := 226) X dX12_reads_223 (by decide +kernel) rfl ?_
              refine g_iload_n (n := 227) X 1 dX12_reads_226 rfl rfl rfl ?_
              refine g_iadd (n := 228) (z := 24900 + ((8 * a) + v5)) X dX12_reads_227 rfl rfl ?_
              refine g_aload_n (n := 229) X 2 dX12_reads_228 rfl rfl rfl ?_
              refine gg_12_12 (n := 232) (z := v40) X (by decide) (gsz hsz (by decide)) lay_190 kw_6_38 dX12_reads_229 rfl hv40 ?_
              refine g_iast (n := 233) X (by decide) (gsz hsz (by decide)) lay_191 (by omega) (by omega) (by decide) dX12_reads_232 rfl ?_
              refine G.nm (fun M41 e42 => ?_)
              have IM41 : gI sz M41 := gI.set IM38 (rs_LSPOT (k := 24900 + ((8 * a) + v5)) (by omega)).1 (by omega) e42
              have CM41 : gC sz M41 := gC.set CM38 (rs_LSPOT (k := 24900 + ((8 * a) + v5)) (by omega)).2.1 e42
              refine g_aload_n (n := 234) X 2 dX12_reads_233 rfl rfl rfl ?_
              have tM41_12 : M41 190 12 = v40 := ((congrFun (congrFun e42 _) _).trans ((gset_ne (by omega)).trans hv40))
              have tM41_14 : M41 190 14 = v2 := ((congrFun (congrFun e42 _) _).trans ((gset_ne (by omega)).trans ((gFr.at FM38 rc_190_14.2.2 rfl).trans ((congrFun (congrFun e35 _) _).trans ((gset_ne (by omega)).trans ((gFr.at FM31 rc_190_14.2.2 rfl).trans ((congrFun (congrFun e13 _) _).trans ((gset_ne (by omega)).trans ((congrFun (congrFun e11 _) _).trans ((gset_ne (by omega)).trans ((gFr.at FM7 rc_190_14.2.2 rfl).trans hv2)))))))))))
              refine g_callVi (n := 237) (As := []) (rest := []) (cs1 := 0) (ss1 := 0) X (s_X12_some hsz M41 IM41 CM41 (gW.fr (S := 147578456189303783424) W ⟨sz, hsz, I⟩ (gFr.s (gFr.c (gFr.s (gFr.c (gFr.s (gFr.s (gFr.c gFr.rf FM7 rfl) e11 (rs_LWORD (k := 24720 + ((8 * a) + v5)) (by omega)).2.2 rfl) e13 (rs_LSPOT (k := 24900 + ((8 * a) + v5)) (by omega)).2.2 rfl) FM31 rfl) e35 (rs_LVALUE (k := 24810 + ((8 * a) + v5)) (by omega)).2.2 rfl) FM38 rfl) e42 (rs_LSPOT (k := 24900 + ((8 * a) + v5)) (by omega)).2.2 rfl) rfl) (by have q1 := ((congrFun (congrFun e42 _) _).trans ((gset_ne (by omega)).trans ((gFr.at FM38 rc_190_15.2.2 rfl).trans ((congrFun (congrFun e35 _) _).trans ((gset_ne (by omega)).trans ((gFr.at FM31 rc_190_15.2.2 rfl).trans ((congrFun (congrFun e13 _) _).trans ((gset_ne (by omega)).trans ((congrFun (congrFun e11 _) _).trans ((gset_ne (by omega)).trans ((gFr.at FM7 rc_190_15.2.2 rfl).trans hv3))))))))))); have q2 := ((congrFun (congrFun e42 _) _).trans ((gset_ne (by omega)).trans ((gFr.at FM38 (rs_PERS (k := 1) (by omega)).2.2 rfl).trans ((congrFun (congrFun e35 _) _).trans ((gset_ne (by omega)).trans ((gFr.at FM31 (rs_PERS (k := 1) (by omega)).2.2 rfl).trans ((congrFun (congrFun e13 _) _).trans ((gset_ne (by omega)).trans ((congrFun (congrFun e11 _) _).trans ((gset_ne (by omega)).trans ((gFr.at FM7 (rs_PERS (k := 1) (by omega)).2.2 rfl).trans hv4))))))))))); omega) (by have q14 := ((congrFun (congrFun e42 _) _).trans ((gset_ne (by omega)).trans ((gFr.at FM38 rc_190_14.2.2 rfl).trans ((congrFun (congrFun e35 _) _).trans ((gset_ne (by omega)).trans ((gFr.at FM31 rc_190_14.2.2 rfl).trans ((congrFun (congrFun e13 _) _).trans ((gset_ne (by omega)).trans ((congrFun (congrFun e11 _) _).trans ((gset_ne (by omega)).trans ((gFr.at FM7 rc_190_14.2.2 rfl).trans hv2))))))))))); omega) (by have q14 := ((congrFun (congrFun e42 _) _).trans ((gset_ne (by omega)).trans ((gFr.at FM38 rc_190_14.2.2 rfl).trans ((congrFun (congrFun e35 _) _).trans ((gset_ne (by omega)).trans ((gFr.at FM31 rc_190_14.2.2 rfl).trans ((congrFun (congrFun e13 _) _).trans ((gset_ne (by omega)).trans ((congrFun (congrFun e11 _) _).trans ((gset_ne (by omega)).trans ((gFr.at FM7 rc_190_14.2.2 rfl).trans hv2))))))))))); omega)) okX12_some kw_7_46 ⟨kw_7_48, kw_0_63⟩ ⟨rfl, rfl⟩ ⟨Nat.le_of_ble_eq_true rfl, Nat.le_of_ble_eq_true rfl⟩ rfl (by decide) (gsz hsz (by decide)) lay_190 rfl rfl (Nat.le_of_ble_eq_true rfl) ⟨Nat.le_of_ble_eq_true rfl, Nat.le_of_ble_eq_true rfl⟩ rfl rfl dX12_reads_234 rfl (fun v43 M44 P45 => ?_)
              obtain ⟨rv43, IM44, CM44, FM44, xM44⟩ := P45
              obtain ⟨v46, hv46, rv46⟩ := gRd IM44 (by decide) (gsz hsz (by decide)) rc_190_12.1
              refine g_istore (n := 239) (L' := [(4, gJ v43), (3, gJ v6), (2, gJ ((8 * a) + v5)), (0, gA n0 190), (1, gJ a)]) X dX12_reads_237 (by decide) rfl rfl ?_
              refine g_aload_n (n := 240) X 3 dX12_reads_239 rfl rfl rfl ?_
              refine gg_12_1 (n := 243) (z := 191) X (by decide) (gsz hsz (by decide)) lay_190 kw_6_27 dX12_reads_240 rfl (rf_190_1 IM44 (gsz hsz (by decide))) (by decide) ?_
              refine g_sipush (n := 246) X dX12_reads_243 (by decide +kernel) rfl ?_
              refine g_iload_n (n := 247) X 4 dX12_reads_246 rfl rfl rfl ?_
              refine g_iadd (n := 248) (z := a + 24700) X dX12_reads_247 (by omega) rfl ?_
              refine g_dup2 (n := 249) X dX12_reads_248 rfl rfl rfl ?_
              refine g_iald2 (n := 250) (v := v5) X (by decide) (gsz hsz (by decide)) lay_191 (by omega) (by omega) (by decide) dX12_reads_249 rfl ((gFr.at FM44 (rs_LCOUNT (k := a + 24700) (by omega)).2.2 rfl).trans ((congrFun (congrFun e42 _) _).trans ((gset_ne (by omega)).trans ((gFr.at FM38 (rs_LCOUNT (k := a + 24700) (by omega)).2.2 rfl).trans ((congrFun (congrFun e35 _) _).trans ((gset_ne (by omega)).trans ((gFr.at FM31 (rs_LCOUNT (k := a + 24700) (by omega)).2.2 rfl).trans ((congrFun (congrFun e13 _) _).trans ((gset_ne (by omega)).trans ((congrFun (congrFun e11 _) _).trans ((gset_ne (by omega)).trans ((gFr.at FM7 (rs_LCOUNT (k := a + 24700) (by omega)).2.2 rfl).trans hv5)))))))))))) ?_
              refine g_iconst (n := 251) X dX12_reads_250 rfl ?_
              refine g_iadd (n := 252) (z := v5 + 1) X dX12_reads_251 (by omega) rfl ?_
              refine g_iast (n := 253) X (by decide) (gsz hsz (by decide)) lay_191 (by omega) (by omega) (by decide) dX12_reads_252 rfl ?_
              refine G.nm (fun M47 e48 => ?_)
              have IM47 : gI sz M47 := gI.set IM44 (rs_LCOUNT (k := a + 24700) (by omega)).1 (by omega) e48
              have CM47 : gC sz M47 := gC.set CM44 (rs_LCOUNT (k := a + 24700) (by omega)).2.1 e48
              exact hq _ _ _ dX12_reads_253 ⟨IM47, CM47, (gFr.s (gFr.c (gFr.s (gFr.c (gFr.s (gFr.c (gFr.s (gFr.s (gFr.c gFr.rf FM7 rfl) e11 (rs_LWORD (k := 24720 + ((8 * a) + v5)) (by omega)).2.2 rfl) e13 (rs_LSPOT (k := 24900 + ((8 * a) + v5)) (by omega)).2.2 rfl) FM31 rfl) e35 (rs_LVALUE (k := 24810 + ((8 * a) + v5)) (by omega)).2.2 rfl) FM38 rfl) e42 (rs_LSPOT (k := 24900 + ((8 * a) + v5)) (by omega)).2.2 rfl) FM44 rfl) e48 (rs_LCOUNT (k := a + 24700) (by omega)).2.2 rfl), by have q12 := ((congrFun (congrFun e48 _) _).trans ((gset_ne (by omega)).trans hv46)); have q14 := ((congrFun (congrFun e48 _) _).trans ((gset_ne (by omega)).trans (xM44.2.trans ((congrFun (congrFun e42 _) _).trans ((gset_ne (by omega)).trans ((gFr.at FM38 rc_190_14.2.2 rfl).trans ((congrFun (congrFun e35 _) _).trans ((gset_ne (by omega)).trans ((gFr.at FM31 rc_190_14.2.2 rfl).trans ((congrFun (congrFun e13 _) _).trans ((gset_ne (by omega)).trans ((congrFun (congrFun e11 _) _).trans ((gset_ne (by omega)).trans ((gFr.at FM7 rc_190_14.2.2 rfl).trans hv2)))))))))))))); omega⟩
            · refine g_iload_n (n := 208) X 0 dX12_reads_207 rfl rfl rfl ?_
              refine g_bipush (n := 210) X dX12_reads_208 (by decide +kernel) rfl ?_
              refine g_icmp_ne (n := 213) (tgt := 239) X dX12_reads_210 (by decide) (by omega) (by omega) rfl (fun c49 => ?_) (fun c49 => by exfalso; omega)
              refine g_aload_n (n := 240) X 2 dX12_reads_239 rfl rfl rfl ?_
              refine gg_12_1 (n := 243) (z := 191) X (by decide) (gsz hsz (by decide)) lay_190 kw_6_27 dX12_reads_240 rfl (rf_190_1 IM34 (gsz hsz (by decide))) (by decide) ?_
              refine g_sipush (n := 246) X dX12_reads_243 (by decide +kernel) rfl ?_
              refine g_iload_n (n := 247) X 3 dX12_reads_246 rfl rfl rfl ?_
              refine g_iadd (n := 248) (z := a + 24700) X dX12_reads_247 (by omega) rfl ?_
              refine g_dup2 (n := 249) X dX12_reads_248 rfl rfl rfl ?_
              refine g_iald2 (n := 250) (v := v5) X (by decide) (gsz hsz (by decide)) lay_191 (by omega) (by omega) (by decide) dX12_reads_249 rfl ((congrFun (congrFun e35 _) _).trans ((gset_ne (by omega)).trans ((gFr.at FM31 (rs_LCOUNT (k := a + 24700) (by omega)).2.2 rfl).trans ((congrFun (congrFun e13 _) _).trans ((gset_ne (by omega)).trans ((congrFun (congrFun e11 _) _).trans ((gset_ne (by omega)).trans ((gFr.at FM7 (rs_LCOUNT (k := a + 24700) (by omega)).2.2 rfl).trans hv5)))))))) ?_
              refine g_iconst (n := 251) X dX12_reads_250 rfl ?_
              refine g_iadd (n := 252) (z := v5 + 1) X dX12_reads_251 (by omega) rfl ?_
              refine g_iast (n := 253) X (by decide) (gsz hsz (by decide)) lay_191 (by omega) (by omega) (by decide) dX12_reads_252 rfl ?_
              refine G.nm (fun M50 e51 => ?_)
              have IM50 : gI sz M50 := gI.set IM34 (rs_LCOUNT (k := a + 24700) (by omega)).1 (by omega) e51
              have CM50 : gC sz M50 := gC.set CM34 (rs_LCOUNT (k := a + 24700) (by omega)).2.1 e51
              exact hq _ _ _ dX12_reads_253 ⟨IM50, CM50, (gFr.s (gFr.s (gFr.c (gFr.s (gFr.s (gFr.c gFr.rf FM7 rfl) e11 (rs_LWORD (k := 24720 + ((8 * a) + v5)) (by omega)).2.2 rfl) e13 (rs_LSPOT (k := 24900 + ((8 * a) + v5)) (by omega)).2.2 rfl) FM31 rfl) e35 (rs_LVALUE (k := 24810 + ((8 * a) + v5)) (by omega)).2.2 rfl) e51 (rs_LCOUNT (k := a + 24700) (by omega)).2.2 rfl), by have q12 := ((congrFun (congrFun e51 _) _).trans ((gset_ne (by omega)).trans ((congrFun (congrFun e35 _) _).trans ((gset_ne (by omega)).trans hv33)))); have q14 := ((congrFun (congrFun e51 _) _).trans ((gset_ne (by omega)).trans ((congrFun (congrFun e35 _) _).trans ((gset_ne (by omega)).trans ((gFr.at FM31 rc_190_14.2.2 rfl).trans ((congrFun (congrFun e13 _) _).trans ((gset_ne (by omega)).trans ((congrFun (congrFun e11 _) _).trans ((gset_ne (by omega)).trans ((gFr.at FM7 rc_190_14.2.2 rfl).trans hv2)))))))))); omega⟩
          · refine g_aload_n (n := 121) X 2 dX12_reads_120 rfl rfl rfl ?_
            have tM12_12 : M12 190 12 = v9 := ((congrFun (congrFun e13 _) _).trans ((gset_ne (by omega)).trans ((congrFun (congrFun e11 _) _).trans ((gset_ne (by omega)).trans hv9))))
            refine g_callVi (n := 124) (As := []) (rest := []) (cs1 := 0) (ss1 := 0) X (s_X12_here  hsz IM12 CM12 ) okX12_here kw_7_26 ⟨kw_7_28, kw_0_58⟩ ⟨rfl, rfl⟩ ⟨Nat.le_of_ble_eq_true rfl, Nat.le_of_ble_eq_true rfl⟩ rfl (by decide) (gsz hsz (by decide)) lay_190 rfl rfl (Nat.le_of_ble_eq_true rfl) ⟨Nat.le_of_ble_eq_true rfl, Nat.le_of_ble_eq_true rfl⟩ rfl rfl dX12_reads_121 rfl (fun v52 M53 P54 => ?_)
            obtain ⟨rfl, rv52, xv52⟩ := P54
            refine g_istore (n := 126) (L' := [(4, gJ v52), (3, gJ v6), (2, gJ ((8 * a) + v5)), (0, gA n0 190), (1, gJ a)]) X dX12_reads_124 (by decide) rfl rfl ?_
            refine g_aload_n (n := 127) X 3 dX12_reads_126 rfl rfl rfl ?_
            refine g_iload (n := 129) X 0 dX12_reads_127 rfl rfl ?_
            refine g_bipush (n := 131) X dX12_reads_129 (by decide +kernel) rfl ?_
            refine g_bipush (n := 133) X dX12_reads_131 (by decide +kernel) rfl ?_
            refine g_callSi (n := 136) (As := [gJ v52, gJ 48, gJ 51]) (rest := [gA n0 190]) (cs1 := 0) (ss1 := 0) X (s_X12_in v52 (by omega) 48 (by omega) 51 (by omega) hsz IM12 CM12 ) okX12_in kw_6_106 kw_6_107 ⟨rfl, rfl⟩ ⟨Nat.le_of_ble_eq_true rfl, Nat.le_of_ble_eq_true rfl⟩ rfl rfl (Nat.le_of_ble_eq_true rfl) ⟨Nat.le_of_ble_eq_true rfl, Nat.le_of_ble_eq_true rfl⟩ rfl rfl dX12_reads_133 rfl (fun v55 M56 P57 => ?_)
            obtain ⟨rfl, rv55, xv55⟩ := P57
            refine g_if_ne (n := 139) (tgt := 143) X dX12_reads_136 (by decide) (by omega) rfl (fun c58 => ?_) (fun c58 => ?_)
            · refine g_iconst (n := 144) X dX12_reads_143 rfl ?_
              refine gp_12_13 (n := 147) X (by decide) (gsz hsz (by decide)) lay_190 kw_6_39 (by omega) dX12_reads_144 rfl ?_
              refine G.nm (fun M59 e60 => ?_)
              have IM59 : gI sz M59 := gI.set IM12 rc_190_13.1 (by omega) e60
              have CM59 : gC sz M59 := gC.set CM12 rc_190_13.2.1 e60
              refine g_aload_n (n := 148) X 3 dX12_reads_147 rfl rfl rfl ?_
              refine g_dup (n := 149) X dX12_reads_148 rfl rfl ?_
              refine gg_12_12 (n := 152) (z := v9) X (by decide) (gsz hsz (by decide)) lay_190 kw_6_38 dX12_reads_149 rfl ((congrFun (congrFun e60 _) _).trans ((gset_ne (by omega)).trans ((congrFun (congrFun e13 _) _).trans ((gset_ne (by omega)).trans ((congrFun (congrFun e11 _) _).trans ((gset_ne (by omega)).trans hv9)))))) ?_
              refine g_aload_n (n := 153) X 3 dX12_reads_152 rfl rfl rfl ?_
              refine gg_12_13 (n := 156) (z := 0) X (by decide) (gsz hsz (by decide)) lay_190 kw_6_39 dX12_reads_153 rfl ((congrFun (congrFun e60 _) _).trans (gset_eq _ _ _ _)) ?_
              refine g_if_eq (n := 159) (tgt := 163) X dX12_reads_156 (by decide) (by omega) rfl (fun c61 => ?_) (fun c61 => by exfalso; omega)
              refine g_iconst (n := 164) X dX12_reads_163 rfl ?_
              refine g_iadd (n := 165) (z := v9 + 1) X dX12_reads_164 (by omega) rfl ?_
              refine gp_12_12 (n := 168) X (by decide) (gsz hsz (by decide)) lay_190 kw_6_38 dX12_reads_165 rfl ?_
              refine G.nm (fun M62 e63 => ?_)
              have IM62 : gI sz M62 := gI.set IM59 rc_190_12.1 (by omega) e63
              have CM62 : gC sz M62 := gC.set CM59 rc_190_12.2.1 e63
              refine g_aload_n (n := 169) X 3 dX12_reads_168 rfl rfl rfl ?_
              refine gg_12_1 (n := 172) (z := 191) X (by decide) (gsz hsz (by decide)) lay_190 kw_6_27 dX12_reads_169 rfl (rf_190_1 IM62 (gsz hsz (by decide))) (by decide) ?_
              refine g_sipush (n := 175) X dX12_reads_172 (by decide +kernel) rfl ?_
              refine g_iload_n (n := 176) X 2 dX12_reads_175 rfl rfl rfl ?_
              refine g_iadd (n := 177) (z := 24810 + ((8 * a) + v5)) X dX12_reads_176 rfl rfl ?_
              refine g_iload (n := 179) X 0 dX12_reads_177 rfl rfl ?_
              refine g_bipush (n := 181) X dX12_reads_179 (by decide +kernel) rfl ?_
              refine g_isub (n := 182) (z := v52 - 48) X dX12_reads_181 (by omega) rfl ?_
              refine g_iast (n := 183) X (by decide) (gsz hsz (by decide)) lay_191 (by omega) (by omega) (by decide) dX12_reads_182 rfl ?_
              refine G.nm (fun M64 e65 => ?_)
              have IM64 : gI sz M64 := gI.set IM62 (rs_LVALUE (k := 24810 + ((8 * a) + v5)) (by omega)).1 (by omega) e65
              have CM64 : gC sz M64 := gC.set CM62 (rs_LVALUE (k := 24810 + ((8 * a) + v5)) (by omega)).2.1 e65
              refine g_goto (tgt := 201) X dX12_reads_183 (by decide) ?_
              refine g_iload_n (n := 202) X 1 dX12_reads_201 rfl rfl rfl ?_
              refine g_bipush (n := 204) X dX12_reads_202 (by decide +kernel) rfl ?_
              refine g_icmp_eq (n := 207) (tgt := 213) X dX12_reads_204 (by decide) (by omega) (by omega) rfl (fun c66 => by exfalso; omega) (fun c66 => ?_)
              refine g_iload_n (n := 208) X 1 dX12_reads_207 rfl rfl rfl ?_
              refine g_bipush (n := 210) X dX12_reads_208 (by decide +kernel) rfl ?_
              refine g_icmp_ne (n := 213) (tgt := 239) X dX12_reads_210 (by decide) (by omega) (by omega) rfl (fun c67 => by exfalso; omega) (fun c67 => ?_)
              refine g_aload_n (n := 214) X 3 dX12_reads_213 rfl rfl rfl ?_
              refine g_bipush (n := 216) X dX12_reads_214 (by decide +kernel) rfl ?_
              have tM64_12 : M64 190 12 = v9 + 1 := ((congrFun (congrFun e65 _) _).trans ((gset_ne (by omega)).trans ((congrFun (congrFun e63 _) _).trans (gset_eq _ _ _ _))))
              refine g_callVv (n := 219) (As := [gJ 32]) (rest := []) (cs1 := 0) (ss1 := 0) X (s_X12_must 32 (by omega) hsz IM64 CM64 ) okX12_must kw_7_42 ⟨kw_7_44, kw_0_62⟩ ⟨rfl, rfl⟩ ⟨Nat.le_of_ble_eq_true rfl, Nat.le_of_ble_eq_true rfl⟩ rfl (by decide) (gsz hsz (by decide)) lay_190 rfl rfl (Nat.le_of_ble_eq_true rfl) ⟨Nat.le_of_ble_eq_true rfl, Nat.le_of_ble_eq_true rfl⟩ rfl rfl dX12_reads_216 rfl (fun M69 P70 => ?_)
              obtain ⟨IM69, CM69, FM69, xM69⟩ := P70
              obtain ⟨v71, hv71, rv71⟩ := gRd IM69 (by decide) (gsz hsz (by decide)) rc_190_12.1
              refine g_aload_n (n := 220) X 3 dX12_reads_219 rfl rfl rfl ?_
              refine gg_12_1 (n := 223) (z := 191) X (by decide) (gsz hsz (by decide)) lay_190 kw_6_27 dX12_reads_220 rfl (rf_190_1 IM69 (gsz hsz (by decide))) (by decide) ?_
              refine g_sipush (n := 226) X dX12_reads_223 (by decide +kernel) rfl ?_
              refine g_iload_n (n := 227) X 2 dX12_reads_226 rfl rfl rfl ?_
              refine g_iadd (n := 228) (z := 24900 + ((8 * a) + v5)) X dX12_reads_227 rfl rfl ?_
              refine g_aload_n (n := 229) X 3 dX12_reads_228 rfl rfl rfl ?_
              refine gg_12_12 (n := 232) (z := v71) X (by decide) (gsz hsz (by decide)) lay_190 kw_6_38 dX12_reads_229 rfl hv71 ?_
              refine g_iast (n := 233) X (by decide) (gsz hsz (by decide)) lay_191 (by omega) (by omega) (by decide) dX12_reads_232 rfl ?_
              refine G.nm (fun M72 e73 => ?_)
              have IM72 : gI sz M72 := gI.set IM69 (rs_LSPOT (k := 24900 + ((8 * a) + v5)) (by omega)).1 (by omega) e73
              have CM72 : gC sz M72 := gC.set CM69 (rs_LSPOT (k := 24900 + ((8 * a) + v5)) (by omega)).2.1 e73
              refine g_aload_n (n := 234) X 3 dX12_reads_233 rfl rfl rfl ?_
              have tM72_12 : M72 190 12 = v71 := ((congrFun (congrFun e73 _) _).trans ((gset_ne (by omega)).trans hv71))
              have tM72_14 : M72 190 14 = v2 := ((congrFun (congrFun e73 _) _).trans ((gset_ne (by omega)).trans ((gFr.at FM69 rc_190_14.2.2 rfl).trans ((congrFun (congrFun e65 _) _).trans ((gset_ne (by omega)).trans ((congrFun (congrFun e63 _) _).trans ((gset_ne (by omega)).trans ((congrFun (congrFun e60 _) _).trans ((gset_ne (by omega)).trans ((congrFun (congrFun e13 _) _).trans ((gset_ne (by omega)).trans ((congrFun (congrFun e11 _) _).trans ((gset_ne (by omega)).trans ((gFr.at FM7 rc_190_14.2.2 rfl).trans hv2))))))))))))))
              refine g_callVi (n := 237) (As := []) (rest := []) (cs1 := 0) (ss1 := 0) X (s_X12_some hsz M72 IM72 CM72 (gW.fr (S := 147578456189303783424) W ⟨sz, hsz, I⟩ (gFr.s (gFr.c (gFr.s (gFr.s (gFr.s (gFr.s (gFr.s (gFr.c gFr.rf FM7 rfl) e11 (rs_LWORD (k := 24720 + ((8 * a) + v5)) (by omega)).2.2 rfl) e13 (rs_LSPOT (k := 24900 + ((8 * a) + v5)) (by omega)).2.2 rfl) e60 rc_190_13.2.2 rfl) e63 rc_190_12.2.2 rfl) e65 (rs_LVALUE (k := 24810 + ((8 * a) + v5)) (by omega)).2.2 rfl) FM69 rfl) e73 (rs_LSPOT (k := 24900 + ((8 * a) + v5)) (by omega)).2.2 rfl) rfl) (by have q1 := ((congrFun (congrFun e73 _) _).trans ((gset_ne (by omega)).trans ((gFr.at FM69 rc_190_15.2.2 rfl).trans ((congrFun (congrFun e65 _) _).trans ((gset_ne (by omega)).trans ((congrFun (congrFun e63 _) _).trans ((gset_ne (by omega)).trans ((congrFun (congrFun e60 _) _).trans ((gset_ne (by omega)).trans ((congrFun (congrFun e13 _) _).trans ((gset_ne (by omega)).trans ((congrFun (congrFun e11 _) _).trans ((gset_ne (by omega)).trans ((gFr.at FM7 rc_190_15.2.2 rfl).trans hv3)))))))))))))); have q2 := ((congrFun (congrFun e73 _) _).trans ((gset_ne (by omega)).trans ((gFr.at FM69 (rs_PERS (k := 1) (by omega)).2.2 rfl).trans ((congrFun (congrFun e65 _) _).trans ((gset_ne (by omega)).trans ((congrFun (congrFun e63 _) _).trans ((gset_ne (by omega)).trans ((congrFun (congrFun e60 _) _).trans ((gset_ne (by omega)).trans ((congrFun (congrFun e13 _) _).trans ((gset_ne (by omega)).trans ((congrFun (congrFun e11 _) _).trans ((gset_ne (by omega)).trans ((gFr.at FM7 (rs_PERS (k := 1) (by omega)).2.2 rfl).trans hv4)))))))))))))); omega) (by have q14 := ((congrFun (congrFun e73 _) _).trans ((gset_ne (by omega)).trans ((gFr.at FM69 rc_190_14.2.2 rfl).trans ((congrFun (congrFun e65 _) _).trans ((gset_ne (by omega)).trans ((congrFun (congrFun e63 _) _).trans ((gset_ne (by omega)).trans ((congrFun (congrFun e60 _) _).trans ((gset_ne (by omega)).trans ((congrFun (congrFun e13 _) _).trans ((gset_ne (by omega)).trans ((congrFun (congrFun e11 _) _).trans ((gset_ne (by omega)).trans ((gFr.at FM7 rc_190_14.2.2 rfl).trans hv2)))))))))))))); omega) (by have q14 := ((congrFun (congrFun e73 _) _).trans ((gset_ne (by omega)).trans ((gFr.at FM69 rc_190_14.2.2 rfl).trans ((congrFun (congrFun e65 _) _).trans ((gset_ne (by omega)).trans ((congrFun (congrFun e63 _) _).trans ((gset_ne (by omega)).trans ((congrFun (congrFun e60 _) _).trans ((gset_ne (by omega)).trans ((congrFun (congrFun e13 _) _).trans ((gset_ne (by omega)).trans ((congrFun (congrFun e11 _) _).trans ((gset_ne (by omega)).trans ((gFr.at FM7 rc_190_14.2.2 rfl).trans hv2)))))))))))))); omega)) okX12_some kw_7_46 ⟨kw_7_48, kw_0_63⟩ ⟨rfl, rfl⟩ ⟨Nat.le_of_ble_eq_true rfl, Nat.le_of_ble_eq_true rfl⟩ rfl (by decide) (gsz hsz (by decide)) lay_190 rfl rfl (Nat.le_of_ble_eq_true rfl) ⟨Nat.le_of_ble_eq_true rfl, Nat.le_of_ble_eq_true rfl⟩ rfl rfl dX12_reads_234 rfl (fun v74 M75 P76 => ?_)
              obtain ⟨rv74, IM75, CM75, FM75, xM75⟩ := P76
              obtain ⟨v77, hv77, rv77⟩ := gRd IM75 (by decide) (gsz hsz (by decide)) rc_190_12.1
              refine g_istore (n := 239) (L' := [(4, gJ v74), (3, gJ v6), (2, gJ ((8 * a) + v5)), (0, gA n0 190), (1, gJ a)]) X dX12_reads_237 (by decide) rfl rfl ?_
              refine g_aload_n (n := 240) X 3 dX12_reads_239 rfl rfl rfl ?_
              refine gg_12_1 (n := 243) (z := 191) X (by decide) (gsz hsz (by decide)) lay_190 kw_6_27 dX12_reads_240 rfl (rf_190_1 IM75 (gsz hsz (by decide))) (by decide) ?_
              refine g_sipush (n := 246) X dX12_reads_243 (by decide +kernel) rfl ?_
              refine g_iload_n (n := 247) X 4 dX12_reads_246 rfl rfl rfl ?_
              refine g_iadd (n := 248) (z := a + 24700) X dX12_reads_247 (by omega) rfl ?_
              refine g_dup2 (n := 249) X dX12_reads_248 rfl rfl rfl ?_
              refine g_iald2 (n := 250) (v := v5) X (by decide) (gsz hsz (by decide)) lay_191 (by omega) (by omega) (by decide) dX12_reads_249 rfl ((gFr.at FM75 (rs_LCOUNT (k := a + 24700) (by omega)).2.2 rfl).trans ((congrFun (congrFun e73 _) _).trans ((gset_ne (by omega)).trans ((gFr.at FM69 (rs_LCOUNT (k := a + 24700) (by omega)).2.2 rfl).trans ((congrFun (congrFun e65 _) _).trans ((gset_ne (by omega)).trans ((congrFun (congrFun e63 _) _).trans ((gset_ne (by omega)).trans ((congrFun (congrFun e60 _) _).trans ((gset_ne (by omega)).trans ((congrFun (congrFun e13 _) _).trans ((gset_ne (by omega)).trans ((congrFun (congrFun e11 _) _).trans ((gset_ne (by omega)).trans ((gFr.at FM7 (rs_LCOUNT (k := a + 24700) (by omega)).2.2 rfl).trans hv5))))))))))))))) ?_
              refine g_iconst (n := 251) X dX12_reads_250 rfl ?_
              refine g_iadd (n := 252) (z := v5 + 1) X dX12_reads_251 (by omega) rfl ?_
              refine g_iast (n := 253) X (by decide) (gsz hsz (by decide)) lay_191 (by omega) (by omega) (by decide) dX12_reads_252 rfl ?_
              refine G.nm (fun M78 e79 => ?_)
              have IM78 : gI sz M78 := gI.set IM75 (rs_LCOUNT (k := a + 24700) (by omega)).1 (by omega) e79
              have CM78 : gC sz M78 := gC.set CM75 (rs_LCOUNT (k := a + 24700) (by omega)).2.1 e79
              exact hq _ _ _ dX12_reads_253 ⟨IM78, CM78, (gFr.s (gFr.c (gFr.s (gFr.c (gFr.s (gFr.s (gFr.s (gFr.s (gFr.s (gFr.c gFr.rf FM7 rfl) e11 (rs_LWORD (k := 24720 + ((8 * a) + v5)) (by omega)).2.2 rfl) e13 (rs_LSPOT (k := 24900 + ((8 * a) + v5)) (by omega)).2.2 rfl) e60 rc_190_13.2.2 rfl) e63 rc_190_12.2.2 rfl) e65 (rs_LVALUE (k := 24810 + ((8 * a) + v5)) (by omega)).2.2 rfl) FM69 rfl) e73 (rs_LSPOT (k := 24900 + ((8 * a) + v5)) (by omega)).2.2 rfl) FM75 rfl) e79 (rs_LCOUNT (k := a + 24700) (by omega)).2.2 rfl), by have q12 := ((congrFun (congrFun e79 _) _).trans ((gset_ne (by omega)).trans hv77)); have q14 := ((congrFun (congrFun e79 _) _).trans ((gset_ne (by omega)).trans (xM75.2.trans ((congrFun (congrFun e73 _) _).trans ((gset_ne (by omega)).trans ((gFr.at FM69 rc_190_14.2.2 rfl).trans ((congrFun (congrFun e65 _) _).trans ((gset_ne (by omega)).trans ((congrFun (congrFun e63 _) _).trans ((gset_ne (by omega)).trans ((congrFun (congrFun e60 _) _).trans ((gset_ne (by omega)).trans ((congrFun (congrFun e13 _) _).trans ((gset_ne (by omega)).trans ((congrFun (congrFun e11 _) _).trans ((gset_ne (by omega)).trans ((gFr.at FM7 rc_190_14.2.2 rfl).trans hv2))))))))))))))))); omega⟩
            · refine g_iconst (n := 140) X dX12_reads_139 rfl ?_
              refine g_goto (tgt := 144) X dX12_reads_140 (by decide) ?_
              refine gp_12_13 (n := 147) X (by decide) (gsz hsz (by decide)) lay_190 kw_6_39 (by omega) dX12_reads_144 rfl ?_
              refine G.nm (fun M80 e81 => ?_)
              have IM80 : gI sz M80 := gI.set IM12 rc_190_13.1 (by omega) e81
              have CM80 : gC sz M80 := gC.set CM12 rc_190_13.2.1 e81
              refine g_aload_n (n := 148) X 3 dX12_reads_147 rfl rfl rfl ?_
              refine g_dup (n := 149) X dX12_reads_148 rfl rfl ?_
              refine gg_12_12 (n := 152) (z := v9) X (by decide) (gsz hsz (by decide)) lay_190 kw_6_38 dX12_reads_149 rfl ((congrFun (congrFun e81 _) _).trans ((gset_ne (by omega)).trans ((congrFun (congrFun e13 _) _).trans ((gset_ne (by omega)).trans ((congrFun (congrFun e11 _) _).trans ((gset_ne (by omega)).trans hv9)))))) ?_
              refine g_aload_n (n := 153) X 3 dX12_reads_152 rfl rfl rfl ?_
              refine gg_12_13 (n := 156) (z := 1) X (by decide) (gsz hsz (by decide)) lay_190 kw_6_39 dX12_reads_153 rfl ((congrFun (congrFun e81 _) _).trans (gset_eq _ _ _ _)) ?_
              refine g_if_eq (n := 159) (tgt := 163) X dX12_reads_156 (by decide) (by omega) rfl (fun c82 => by exfalso; omega) (fun c82 => ?_)
              refine g_iconst (n := 160) X dX12_reads_159 rfl ?_
              refine g_goto (tgt := 164) X dX12_reads_160 (by decide) ?_
              refine g_iadd (n := 165) (z := v9) X dX12_reads_164 (by omega) rfl ?_
              refine gp_12_12 (n := 168) X (by decide) (gsz hsz (by decide)) lay_190 kw_6_38 dX12_reads_165 rfl ?_
              refine G.nm (fun M83 e84 => ?_)
              have IM83 : gI sz M83 := gI.set IM80 rc_190_12.1 (by omega) e84
              have CM83 : gC sz M83 := gC.set CM80 rc_190_12.2.1 e84
              refine g_aload_n (n := 169) X 3 dX12_reads_168 rfl rfl rfl ?_
              refine gg_12_1 (n := 172) (z := 191) X (by decide) (gsz hsz (by decide)) lay_190 kw_6_27 dX12_reads_169 rfl (rf_190_1 IM83 (gsz hsz (by decide))) (by decide) ?_
              refine g_sipush (n := 175) X dX12_reads_172 (by decide +kernel) rfl ?_
              refine g_iload_n (n := 176) X 2 dX12_reads_175 rfl rfl rfl ?_
              refine g_iadd (n := 177) (z := 24810 + ((8 * a) + v5)) X dX12_reads_176 rfl rfl ?_
              refine g_iload (n := 179) X 0 dX12_reads_177 rfl rfl ?_
              refine g_bipush (n := 181) X dX12_reads_179 (by decide +kernel) rfl ?_
              refine g_isub (n := 182) (z := v52 - 48) X dX12_reads_181 (by omega) rfl ?_
              refine g_iast (n := 183) X (by decide) (gsz hsz (by decide)) lay_191 (by omega) (by omega) (by decide) dX12_reads_182 rfl ?_
              refine G.nm (fun M85 e86 => ?_)
              have IM85 : gI sz M85 := gI.set IM83 (rs_LVALUE (k := 24810 + ((8 * a) + v5)) (by omega)).1 (by omega) e86
              have CM85 : gC sz M85 := gC.set CM83 (rs_LVALUE (k := 24810 + ((8 * a) + v5)) (by omega)).2.1 e86
              refine g_goto (tgt := 201) X dX12_reads_183 (by decide) ?_
              refine g_iload_n (n := 202) X 1 dX12_reads_201 rfl rfl rfl ?_
              refine g_bipush (n := 204) X dX12_reads_202 (by decide +kernel) rfl ?_
              refine g_icmp_eq (n := 207) (tgt := 213) X dX12_reads_204 (by decide) (by omega) (by omega) rfl (fun c87 => by exfalso; omega) (fun c87 => ?_)
              refine g_iload_n (n := 208) X 1 dX12_reads_207 rfl rfl rfl ?_
              refine g_bipush (n := 210) X dX12_reads_208 (by decide +kernel) rfl ?_
              refine g_icmp_ne (n := 213) (tgt := 239) X dX12_reads_210 (by decide) (by omega) (by omega) rfl (fun c88 => by exfalso; omega) (fun c88 => ?_)
              refine g_aload_n (n := 214) X 3 dX12_reads_213 rfl rfl rfl ?_
              refine g_bipush (n := 216) X dX12_reads_214 (by decide +kernel) rfl ?_
              have tM85_12 : M85 190 12 = v9 := ((congrFun (congrFun e86 _) _).trans ((gset_ne (by omega)).trans ((congrFun (congrFun e84 _) _).trans (gset_eq _ _ _ _))))
              refine g_callVv (n := 219) (As := [gJ 32]) (rest := []) (cs1 := 0) (ss1 := 0) X (s_X12_must 32 (by omega) hsz IM85 CM85 ) okX12_must kw_7_42 ⟨kw_7_44, kw_0_62⟩ ⟨rfl, rfl⟩ ⟨Nat.le_of_ble_eq_true rfl, Nat.le_of_ble_eq_true rfl⟩ rfl (by decide) (gsz hsz (by decide)) lay_190 rfl rfl (Nat.le_of_ble_eq_true rfl) ⟨Nat.le_of_ble_eq_true rfl, Nat.le_of_ble_eq_true rfl⟩ rfl rfl dX12_reads_216 rfl (fun M90 P91 => ?_)
              obtain ⟨IM90, CM90, FM90, xM90⟩ := P91
              obtain ⟨v92, hv92, rv92⟩ := gRd IM90 (by decide) (gsz hsz (by decide)) rc_190_12.1
              refine g_aload_n (n := 220) X 3 dX12_reads_219 rfl rfl rfl ?_
              refine gg_12_1 (n := 223) (z := 191) X (by decide) (gsz hsz (by decide)) lay_190 kw_6_27 dX12_reads_220 rfl (rf_190_1 IM90 (gsz hsz (by decide))) (by decide) ?_
              refine g_sipush (n := 226) X dX12_reads_223 (by decide +kernel) rfl ?_
              refine g_iload_n (n := 227) X 2 dX12_reads_226 rfl rfl rfl ?_
              refine g_iadd (n := 228) (z := 24900 + ((8 * a) + v5)) X dX12_reads_227 rfl rfl ?_
              refine g_aload_n (n := 229) X 3 dX12_reads_228 rfl rfl rfl ?_
              refine gg_12_12 (n := 232) (z := v92) X (by decide) (gsz hsz (by decide)) lay_190 kw_6_38 dX12_reads_229 rfl hv92 ?_
              refine g_iast (n := 233) X (by decide) (gsz hsz (by decide)) lay_191 (by omega) (by omega) (by decide) dX12_reads_232 rfl ?_
              refine G.nm (fun M93 e94 => ?_)
              have IM93 : gI sz M93 := gI.set IM90 (rs_LSPOT (k := 24900 + ((8 * a) + v5)) (by omega)).1 (by omega) e94
              have CM93 : gC sz M93 := gC.set CM90 (rs_LSPOT (k := 24900 + ((8 * a) + v5)) (by omega)).2.1 e94
              refine g_aload_n (n := 234) X 3 dX12_reads_233 rfl rfl rfl ?_
              have tM93_12 : M93 190 12 = v92 := ((congrFun (congrFun e94 _) _).trans ((gset_ne (by omega)).trans hv92))
              have tM93_14 : M93 190 14 = v2 := ((congrFun (congrFun e94 _) _).trans ((gset_ne (by omega)).trans ((gFr.at FM90 rc_190_14.2.2 rfl).trans ((congrFun (congrFun e86 _) _).trans ((gset_ne (by omega)).trans ((congrFun (congrFun e84 _) _).trans ((gset_ne (by omega)).trans ((congrFun (congrFun e81 _) _).trans ((gset_ne (by omega)).trans ((congrFun (congrFun e13 _) _).trans ((gset_ne (by omega)).trans ((congrFun (congrFun e11 _) _).trans ((gset_ne (by omega)).trans ((gFr.at FM7 rc_190_14.2.2 rfl).trans hv2))))))))))))))
              refine g_callVi (n := 237) (As := []) (rest := []) (cs1 := 0) (ss1 := 0) X (s_X12_some hsz M93 IM93 CM93 (gW.fr (S := 147578456189303783424) W ⟨sz, hsz, I⟩ (gFr.s (gFr.c (gFr.s (gFr.s (gFr.s (gFr.s (gFr.s (gFr.c gFr.rf FM7 rfl) e11 (rs_LWORD (k := 24720 + ((8 * a) + v5)) (by omega)).2.2 rfl) e13 (rs_LSPOT (k := 24900 + ((8 * a) + v5)) (by omega)).2.2 rfl) e81 rc_190_13.2.2 rfl) e84 rc_190_12.2.2 rfl) e86 (rs_LVALUE (k := 24810 + ((8 * a) + v5)) (by omega)).2.2 rfl) FM90 rfl) e94 (rs_LSPOT (k := 24900 + ((8 * a) + v5)) (by omega)).2.2 rfl) rfl) (by have q1 := ((congrFun (congrFun e94 _) _).trans ((gset_ne (by omega)).trans ((gFr.at FM90 rc_190_15.2.2 rfl).trans ((congrFun (congrFun e86 _) _).trans ((gset_ne (by omega)).trans ((congrFun (congrFun e84 _) _).trans ((gset_ne (by omega)).trans ((congrFun (congrFun e81 _) _).trans ((gset_ne (by omega)).trans ((congrFun (congrFun e13 _) _).trans ((gset_ne (by omega)).trans ((congrFun (congrFun e11 _) _).trans ((gset_ne (by omega)).trans ((gFr.at FM7 rc_190_15.2.2 rfl).trans hv3)))))))))))))); have q2 := ((congrFun (congrFun e94 _) _).trans ((gset_ne (by omega)).trans ((gFr.at FM90 (rs_PERS (k := 1) (by omega)).2.2 rfl).trans ((congrFun (congrFun e86 _) _).trans ((gset_ne (by omega)).trans ((congrFun (congrFun e84 _) _).trans ((gset_ne (by omega)).trans ((congrFun (congrFun e81 _) _).trans ((gset_ne (by omega)).trans ((congrFun (congrFun e13 _) _).trans ((gset_ne (by omega)).trans ((congrFun (congrFun e11 _) _).trans ((gset_ne (by omega)).trans ((gFr.at FM7 (rs_PERS (k := 1) (by omega)).2.2 rfl).trans hv4)))))))))))))); omega) (by have q14 := ((congrFun (congrFun e94 _) _).trans ((gset_ne (by omega)).trans ((gFr.at FM90 rc_190_14.2.2 rfl).trans ((congrFun (congrFun e86 _) _).trans ((gset_ne (by omega)).trans ((congrFun (congrFun e84 _) _).trans ((gset_ne (by omega)).trans ((congrFun (congrFun e81 _) _).trans ((gset_ne (by omega)).trans ((congrFun (congrFun e13 _) _).trans ((gset_ne (by omega)).trans ((congrFun (congrFun e11 _) _).trans ((gset_ne (by omega)).trans ((gFr.at FM7 rc_190_14.2.2 rfl).trans hv2)))))))))))))); omega) (by have q14 := ((congrFun (congrFun e94 _) _).trans ((gset_ne (by omega)).trans ((gFr.at FM90 rc_190_14.2.2 rfl).trans ((congrFun (congrFun e86 _) _).trans ((gset_ne (by omega)).trans ((congrFun (congrFun e84 _) _).trans ((gset_ne (by omega)).trans ((congrFun (congrFun e81 _) _).trans ((gset_ne (by omega)).trans ((congrFun (congrFun e13 _) _).trans ((gset_ne (by omega)).trans ((congrFun (congrFun e11 _) _).trans ((gset_ne (by omega)).trans ((gFr.at FM7 rc_190_14.2.2 rfl).trans hv2)))))))))))))); omega)) okX12_some kw_7_46 ⟨kw_7_48, kw_0_63⟩ ⟨rfl, rfl⟩ ⟨Nat.le_of_ble_eq_true rfl, Nat.le_of_ble_eq_true rfl⟩ rfl (by decide) (gsz hsz (by decide)) lay_190 rfl rfl (Nat.le_of_ble_eq_true rfl) ⟨Nat.le_of_ble_eq_true rfl, Nat.le_of_ble_eq_true rfl⟩ rfl rfl dX12_reads_234 rfl (fun v95 M96 P97 => ?_)
              obtain ⟨rv95, IM96, CM96, FM96, xM96⟩ := P97
              obtain ⟨v98, hv98, rv98⟩ := gRd IM96 (by decide) (gsz hsz (by decide)) rc_190_12.1
              refine g_istore (n := 239) (L' := [(4, gJ v95), (3, gJ v6), (2, gJ ((8 * a) + v5)), (0, gA n0 190), (1, gJ a)]) X dX12_reads_237 (by decide) rfl rfl ?_
              refine g_aload_n (n := 240) X 3 dX12_reads_239 rfl rfl rfl ?_
              refine gg_12_1 (n := 243) (z := 191) X (by decide) (gsz hsz (by decide)) lay_190 kw_6_27 dX12_reads_240 rfl (rf_190_1 IM96 (gsz hsz (by decide))) (by decide) ?_
              refine g_sipush (n := 246) X dX12_reads_243 (by decide +kernel) rfl ?_
              refine g_iload_n (n := 247) X 4 dX12_reads_246 rfl rfl rfl ?_
              refine g_iadd (n := 248) (z := a + 24700) X dX12_reads_247 (by omega) rfl ?_
              refine g_dup2 (n := 249) X dX12_reads_248 rfl rfl rfl ?_
              refine g_iald2 (n := 250) (v := v5) X (by decide) (gsz hsz (by decide)) lay_191 (by omega) (by omega) (by decide) dX12_reads_249 rfl ((gFr.at FM96 (rs_LCOUNT (k := a + 24700) (by omega)).2.2 rfl).trans ((congrFun (congrFun e94 _) _).trans ((gset_ne (by omega)).trans ((gFr.at FM90 (rs_LCOUNT (k := a + 24700) (by omega)).2.2 rfl).trans ((congrFun (congrFun e86 _) _).trans ((gset_ne (by omega)).trans ((congrFun (congrFun e84 _) _).trans ((gset_ne (by omega)).trans ((congrFun (congrFun e81 _) _).trans ((gset_ne (by omega)).trans ((congrFun (congrFun e13 _) _).trans ((gset_ne (by omega)).trans ((congrFun (congrFun e11 _) _).trans ((gset_ne (by omega)).trans ((gFr.at FM7 (rs_LCOUNT (k := a + 24700) (by omega)).2.2 rfl).trans hv5))))))))))))))) ?_
              refine g_iconst (n := 251) X dX12_reads_250 rfl ?_
              refine g_iadd (n := 252) (z := v5 + 1) X dX12_reads_251 (by omega) rfl ?_
              refine g_iast (n := 253) X (by decide) (gsz hsz (by decide)) lay_191 (by omega) (by omega) (by decide) dX12_reads_252 rfl ?_
              refine G.nm (fun M99 e100 => ?_)
              have IM99 : gI sz M99 := gI.set IM96 (rs_LCOUNT (k := a + 24700) (by omega)).1 (by omega) e100
              have CM99 : gC sz M99 := gC.set CM96 (rs_LCOUNT (k := a + 24700) (by omega)).2.1 e100
              exact hq _ _ _ dX12_reads_253 ⟨IM99, CM99, (gFr.s (gFr.c (gFr.s (gFr.c (gFr.s (gFr.s (gFr.s (gFr.s (gFr.s (gFr.c gFr.rf FM7 rfl) e11 (rs_LWORD (k := 24720 + ((8 * a) + v5)) (by omega)).2.2 rfl) e13 (rs_LSPOT (k := 24900 + ((8 * a) + v5)) (by omega)).2.2 rfl) e81 rc_190_13.2.2 rfl) e84 rc_190_12.2.2 rfl) e86 (rs_LVALUE (k := 24810 + ((8 * a) + v5)) (by omega)).2.2 rfl) FM90 rfl) e94 (rs_LSPOT (k := 24900 + ((8 * a) + v5)) (by omega)).2.2 rfl) FM96 rfl) e100 (rs_LCOUNT (k := a + 24700) (by omega)).2.2 rfl), by have q12 := ((congrFun (congrFun e100 _) _).trans ((gset_ne (by omega)).trans hv98)); have q14 := ((congrFun (congrFun e100 _) _).trans ((gset_ne (by omega)).trans (xM96.2.trans ((congrFun (congrFun e94 _) _).trans ((gset_ne (by omega)).trans ((gFr.at FM90 rc_190_14.2.2 rfl).trans ((congrFun (congrFun e86 _) _).trans ((gset_ne (by omega)).trans ((congrFun (congrFun e84 _) _).trans ((gset_ne (by omega)).trans ((congrFun (congrFun e81 _) _).trans ((gset_ne (by omega)).trans ((congrFun (congrFun e13 _) _).trans ((gset_ne (by omega)).trans ((congrFun (congrFun e11 _) _).trans ((gset_ne (by omega)).trans ((gFr.at FM7 rc_190_14.2.2 rfl).trans hv2))))))))))))))))); omega⟩
        · refine g_aload_n (n := 92) X 2 dX12_reads_91 rfl rfl rfl ?_
          refine gg_12_1 (n := 95) (z := 191) X (by decide) (gsz hsz (by decide)) lay_190 kw_6_27 dX12_reads_92 rfl (rf_190_1 IM12 (gsz hsz (by decide))) (by decide) ?_
          refine g_sipush (n := 98) X dX12_reads_95 (by decide +kernel) rfl ?_
          refine g_iload_n (n := 99) X 1 dX12_reads_98 rfl rfl rfl ?_
          refine g_iadd (n := 100) (z := 24810 + ((8 * a) + v5)) X dX12_reads_99 rfl rfl ?_
          refine g_aload_n (n := 101) X 2 dX12_reads_100 rfl rfl rfl ?_
          refine g_bipush (n := 103) X dX12_reads_101 (by decide +kernel) rfl ?_
          refine g_bipush (n := 105) X dX12_reads_103 (by decide +kernel) rfl ?_
          refine g_bipush (n := 107) X dX12_reads_105 (by decide +kernel) rfl ?_
          have tM12_12 : M12 190 12 = v9 := ((congrFun (congrFun e13 _) _).trans ((gset_ne (by omega)).trans ((congrFun (congrFun e11 _) _).trans ((gset_ne (by omega)).trans hv9))))
          refine g_callVi (n := 110) (As := [gJ 114, gJ 104, gJ 101]) (rest := [gJ (24810 + ((8 * a) + v5)), gA n0 191]) (cs1 := 0) (ss1 := 0) X (s_X12_letter 114 (by omega) 104 (by omega) 101 (by omega) hsz IM12 CM12 ) okX12_letter kw_7_30 ⟨kw_7_32, kw_0_59⟩ ⟨rfl, rfl⟩ ⟨Nat.le_of_ble_eq_true rfl, Nat.le_of_ble_eq_true rfl⟩ rfl (by decide) (gsz hsz (by decide)) lay_190 rfl rfl (Nat.le_of_ble_eq_true rfl) ⟨Nat.le_of_ble_eq_true rfl, Nat.le_of_ble_eq_true rfl⟩ rfl rfl dX12_reads_107 rfl (fun v101 M102 P103 => ?_)
          obtain ⟨rv101, IM102, CM102, FM102, xM102⟩ := P103
          obtain ⟨v104, hv104, rv104⟩ := gRd IM102 (by decide) (gsz hsz (by decide)) rc_190_12.1
          refine g_iast (n := 111) X (by decide) (gsz hsz (by decide)) lay_191 (by omega) (by omega) (by decide) dX12_reads_110 rfl ?_
          refine G.nm (fun M105 e106 => ?_)
          have IM105 : gI sz M105 := gI.set IM102 (rs_LVALUE (k := 24810 + ((8 * a) + v5)) (by omega)).1 (by omega) e106
          have CM105 : gC sz M105 := gC.set CM102 (rs_LVALUE (k := 24810 + ((8 * a) + v5)) (by omega)).2.1 e106
          refine g_goto (tgt := 201) X dX12_reads_111 (by decide) ?_
          refine g_iload_n (n := 202) X 0 dX12_reads_201 rfl rfl rfl ?_
          refine g_bipush (n := 204) X dX12_reads_202 (by decide +kernel) rfl ?_
          refine g_icmp_eq (n := 207) (tgt := 213) X dX12_reads_204 (by decide) (by omega) (by omega) rfl (fun c107 => by exfalso; omega) (fun c107 => ?_)
          refine g_iload_n (n := 208) X 0 dX12_reads_207 rfl rfl rfl ?_
          refine g_bipush (n := 210) X dX12_reads_208 (by decide +kernel) rfl ?_
          refine g_icmp_ne (n := 213) (tgt := 239) X dX12_reads_210 (by decide) (by omega) (by omega) rfl (fun c108 => ?_) (fun c108 => by exfalso; omega)
          refine g_aload_n (n := 240) X 2 dX12_reads_239 rfl rfl rfl ?_
          refine gg_12_1 (n := 243) (z := 191) X (by decide) (gsz hsz (by decide)) lay_190 kw_6_27 dX12_reads_240 rfl (rf_190_1 IM105 (gsz hsz (by decide))) (by decide) ?_
          refine g_sipush (n := 246) X dX12_reads_243 (by decide +kernel) rfl ?_
          refine g_iload_n (n := 247) X 3 dX12_reads_246 rfl rfl rfl ?_
          refine g_iadd (n := 248) (z := a + 24700) X dX12_reads_247 (by omega) rfl ?_
          refine g_dup2 (n := 249) X dX12_reads_248 rfl rfl rfl ?_
          refine g_iald2 (n := 250) (v := v5) X (by decide) (gsz hsz (by decide)) lay_191 (by omega) (by omega) (by decide) dX12_reads_249 rfl ((congrFun (congrFun e106 _) _).trans ((gset_ne (by omega)).trans ((gFr.at FM102 (rs_LCOUNT (k := a + 24700) (by omega)).2.2 rfl).trans ((congrFun (congrFun e13 _) _).trans ((gset_ne (by omega)).trans ((congrFun (congrFun e11 _) _).trans ((gset_ne (by omega)).trans ((gFr.at FM7 (rs_LCOUNT (k := a + 24700) (by omega)).2.2 rfl).trans hv5)))))))) ?_
          refine g_iconst (n := 251) X dX12_reads_250 rfl ?_
          refine g_iadd (n := 252) (z := v5 + 1) X dX12_reads_251 (by omega) rfl ?_
          refine g_iast (n := 253) X (by decide) (gsz hsz (by decide)) lay_191 (by omega) (by omega) (by decide) dX12_reads_252 rfl ?_
          refine G.nm (fun M109 e110 => ?_)
          have IM109 : gI sz M109 := gI.set IM105 (rs_LCOUNT (k := a + 24700) (by omega)).1 (by omega) e110
          have CM109 : gC sz M109 := gC.set CM105 (rs_LCOUNT (k := a + 24700) (by omega)).2.1 e110
          exact hq _ _ _ dX12_reads_253 ⟨IM109, CM109, (gFr.s (gFr.s (gFr.c (gFr.s (gFr.s (gFr.c gFr.rf FM7 rfl) e11 (rs_LWORD (k := 24720 + ((8 * a) + v5)) (by omega)).2.2 rfl) e13 (rs_LSPOT (k := 24900 + ((8 * a) + v5)) (by omega)).2.2 rfl) FM102 rfl) e106 (rs_LVALUE (k := 24810 + ((8 * a) + v5)) (by omega)).2.2 rfl) e110 (rs_LCOUNT (k := a + 24700) (by omega)).2.2 rfl), by have q12 := ((congrFun (congrFun e110 _) _).trans ((gset_ne (by omega)).trans ((congrFun (congrFun e106 _) _).trans ((gset_ne (by omega)).trans hv104)))); have q14 := ((congrFun (congrFun e110 _) _).trans ((gset_ne (by omega)).trans ((congrFun (congrFun e106 _) _).trans ((gset_ne (by omega)).trans ((gFr.at FM102 rc_190_14.2.2 rfl).trans ((congrFun (congrFun e13 _) _).trans ((gset_ne (by omega)).trans ((congrFun (congrFun e11 _) _).trans ((gset_ne (by omega)).trans ((gFr.at FM7 rc_190_14.2.2 rfl).trans hv2)))))))))); omega⟩
      · refine g_aload_n (n := 63) X 2 dX12_reads_62 rfl rfl rfl ?_
        refine gg_12_1 (n := 66) (z := 191) X (by decide) (gsz hsz (by decide)) lay_190 kw_6_27 dX12_reads_63 rfl (rf_190_1 IM12 (gsz hsz (by decide))) (by decide) ?_
        refine g_sipush (n := 69) X dX12_reads_66 (by decide +kernel) rfl ?_
        refine g_iload_n (n := 70) X 1 dX12_reads_69 rfl rfl rfl ?_
        refine g_iadd (n := 71) (z := 24810 + ((8 * a) + v5)) X dX12_reads_70 rfl rfl ?_
        refine g_aload_n (n := 72) X 2 dX12_reads_71 rfl rfl rfl ?_
        refine g_bipush (n := 74) X dX12_reads_72 (by decide +kernel) rfl ?_
        refine g_bipush (n := 76) X dX12_reads_74 (by decide +kernel) rfl ?_
        refine g_bipush (n := 78) X dX12_reads_76 (by decide +kernel) rfl ?_
        have tM12_12 : M12 190 12 = v9 := ((congrFun (congrFun e13 _) _).trans ((gset_ne (by omega)).trans ((congrFun (congrFun e11 _) _).trans ((gset_ne (by omega)).trans hv9))))
        refine g_callVi (n := 81) (As := [gJ 110, gJ 121, gJ 121]) (rest := [gJ (24810 + ((8 * a) + v5)), gA n0 191]) (cs1 := 0) (ss1 := 0) X (s_X12_letter 110 (by omega) 121 (by omega) 121 (by omega) hsz IM12 CM12 ) okX12_letter kw_7_30 ⟨kw_7_32, kw_0_59⟩ ⟨rfl, rfl⟩ ⟨Nat.le_of_ble_eq_true rfl, Nat.le_of_ble_eq_true rfl⟩ rfl (by decide) (gsz hsz (by decide)) lay_190 rfl rfl (Nat.le_of_ble_eq_true rfl) ⟨Nat.le_of_ble_eq_true rfl, Nat.le_of_ble_eq_true rfl⟩ rfl rfl dX12_reads_78 rfl (fun v111 M112 P113 => ?_)
        obtain ⟨rv111, IM112, CM112, FM112, xM112⟩ := P113
        obtain ⟨v114, hv114, rv114⟩ := gRd IM112 (by decide) (gsz hsz (by decide)) rc_190_12.1
        refine g_iast (n := 82) X (by decide) (gsz hsz (by decide)) lay_191 (by omega) (by omega) (by decide) dX12_reads_81 rfl ?_
        refine G.nm (fun M115 e116 => ?_)
        have IM115 : gI sz M115 := gI.set IM112 (rs_LVALUE (k := 24810 + ((8 * a) + v5)) (by omega)).1 (by omega) e116
        have CM115 : gC sz M115 := gC.set CM112 (rs_LVALUE (k := 24810 + ((8 * a) + v5)) (by omega)).2.1 e116
        refine g_goto (tgt := 201) X dX12_reads_82 (by decide) ?_
        refine g_iload_n (n := 202) X 0 dX12_reads_201 rfl rfl rfl ?_
        refine g_bipush (n := 204) X dX12_reads_202 (by decide +kernel) rfl ?_
        refine g_icmp_eq (n := 207) (tgt := 213) X dX12_reads_204 (by decide) (by omega) (by omega) rfl (fun c117 => by exfalso; omega) (fun c117 => ?_)
        refine g_iload_n (n := 208) X 0 dX12_reads_207 rfl rfl rfl ?_
        refine g_bipush (n := 210) X dX12_reads_208 (by decide +kernel) rfl ?_
        refine g_icmp_ne (n := 213) (tgt := 239) X dX12_reads_210 (by decide) (by omega) (by omega) rfl (fun c118 => ?_) (fun c118 => by exfalso; omega)
        refine g_aload_n (n := 240) X 2 dX12_reads_239 rfl rfl rfl ?_
        refine gg_12_1 (n := 243) (z := 191) X (by decide) (gsz hsz (by decide)) lay_190 kw_6_27 dX12_reads_240 rfl (rf_190_1 IM115 (gsz hsz (by decide))) (by decide) ?_
        refine g_sipush (n := 246) X dX12_reads_243 (by decide +kernel) rfl ?_
        refine g_iload_n (n := 247) X 3 dX12_reads_246 rfl rfl rfl ?_
        refine g_iadd (n := 248) (z := a + 24700) X dX12_reads_247 (by omega) rfl ?_
        refine g_dup2 (n := 249) X dX12_reads_248 rfl rfl rfl ?_
        refine g_iald2 (n := 250) (v := v5) X (by decide) (gsz hsz (by decide)) lay_191 (by omega) (by omega) (by decide) dX12_reads_249 rfl ((congrFun (congrFun e116 _) _).trans ((gset_ne (by omega)).trans ((gFr.at FM112 (rs_LCOUNT (k := a + 24700) (by omega)).2.2 rfl).trans ((congrFun (congrFun e13 _) _).trans ((gset_ne (by omega)).trans ((congrFun (congrFun e11 _) _).trans ((gset_ne (by omega)).trans ((gFr.at FM7 (rs_LCOUNT (k := a + 24700) (by omega)).2.2 rfl).trans hv5)))))))) ?_
        refine g_iconst (n := 251) X dX12_reads_250 rfl ?_
        refine g_iadd (n := 252) (z := v5 + 1) X dX12_reads_251 (by omega) rfl ?_
        refine g_iast (n := 253) X (by decide) (gsz hsz (by decide)) lay_191 (by omega) (by omega) (by decide) dX12_reads_252 rfl ?_
        refine G.nm (fun M119 e120 => ?_)
        have IM119 : gI sz M119 := gI.set IM115 (rs_LCOUNT (k := a + 24700) (by omega)).1 (by omega) e120
        have CM119 : gC sz M119 := gC.set CM115 (rs_LCOUNT (k := a + 24700) (by omega)).2.1 e120
        exact hq _ _ _ dX12_reads_253 ⟨IM119, CM119, (gFr.s (gFr.s (gFr.c (gFr.s (gFr.s (gFr.c gFr.rf FM7 rfl) e11 (rs_LWORD (k := 24720 + ((8 * a) + v5)) (by omega)).2.2 rfl) e13 (rs_LSPOT (k := 24900 + ((8 * a) + v5)) (by omega)).2.2 rfl) FM112 rfl) e116 (rs_LVALUE (k := 24810 + ((8 * a) + v5)) (by omega)).2.2 rfl) e120 (rs_LCOUNT (k := a + 24700) (by omega)).2.2 rfl), by have q12 := ((congrFun (congrFun e120 _) _).trans ((gset_ne (by omega)).trans ((congrFun (congrFun e116 _) _).trans ((gset_ne (by omega)).trans hv114)))); have q14 := ((congrFun (congrFun e120 _) _).trans ((gset_ne (by omega)).trans ((congrFun (congrFun e116 _) _).trans ((gset_ne (by omega)).trans ((gFr.at FM112 rc_190_14.2.2 rfl).trans ((congrFun (congrFun e13 _) _).trans ((gset_ne (by omega)).trans ((congrFun (congrFun e11 _) _).trans ((gset_ne (by omega)).trans ((gFr.at FM7 rc_190_14.2.2 rfl).trans hv2)))))))))); omega⟩
  · exact hq _ _ _ dX12_reads_50 ⟨IM12, CM12, (gFr.s (gFr.s (gFr.c gFr.rf FM7 rfl) e11 (rs_LWORD (k := 24720 + ((8 * a) + v5)) (by omega)).2.2 rfl) e13 (rs_LSPOT (k := 24900 + ((8 * a) + v5)) (by omega)).2.2 rfl), by have q12 := ((congrFun (congrFun e13 _) _).trans ((gset_ne (by omega)).trans ((congrFun (congrFun e11 _) _).trans ((gset_ne (by omega)).trans hv9)))); have q14 := ((congrFun (congrFun e13 _) _).trans ((gset_ne (by omega)).trans ((congrFun (congrFun e11 _) _).trans ((gset_ne (by omega)).trans ((gFr.at FM7 rc_190_14.2.2 rfl).trans hv2))))); omega⟩
