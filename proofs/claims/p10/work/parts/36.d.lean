theorem dX12_readsAct_0 : decode cX12_readsAct 0 = .ok (.aload_n 0, 1) := dc_42 (by decide +kernel)
theorem dX12_readsAct_1 : decode cX12_readsAct 1 = .ok (.getfield 7, 3) := dc_180 0 7 (by decide +kernel)
theorem dX12_readsAct_4 : decode cX12_readsAct 4 = .ok (.sipush 656, 3) := dc_17 2 144 656 (by decide +kernel)
theorem dX12_readsAct_7 : decode cX12_readsAct 7 = .ok (.iload_n 1, 1) := dc_27 (by decide +kernel)
theorem dX12_readsAct_8 : decode cX12_readsAct 8 = .ok (.iadd, 1) := dc_96 (by decide +kernel)
theorem dX12_readsAct_9 : decode cX12_readsAct 9 = .ok (.iload_n 2, 1) := dc_28 (by decide +kernel)
theorem dX12_readsAct_10 : decode cX12_readsAct 10 = .ok (.iastore, 1) := dc_79 (by decide +kernel)
theorem dX12_readsAct_11 : decode cX12_readsAct 11 = .ok (.aload_n 0, 1) := dc_42 (by decide +kernel)
theorem dX12_readsAct_12 : decode cX12_readsAct 12 = .ok (.getfield 7, 3) := dc_180 0 7 (by decide +kernel)
theorem dX12_readsAct_15 : decode cX12_readsAct 15 = .ok (.sipush 668, 3) := dc_17 2 156 668 (by decide +kernel)
theorem dX12_readsAct_18 : decode cX12_readsAct 18 = .ok (.iload_n 1, 1) := dc_27 (by decide +kernel)
theorem dX12_readsAct_19 : decode cX12_readsAct 19 = .ok (.iadd, 1) := dc_96 (by decide +kernel)
theorem dX12_readsAct_20 : decode cX12_readsAct 20 = .ok (.aload_n 0, 1) := dc_42 (by decide +kernel)
theorem dX12_readsAct_21 : decode cX12_readsAct 21 = .ok (.getfield 7, 3) := dc_180 0 7 (by decide +kernel)
theorem dX12_readsAct_24 : decode cX12_readsAct 24 = .ok (.bipush 10, 2) := dc_16 10 10 (by decide +kernel)
theorem dX12_readsAct_26 : decode cX12_readsAct 26 = .ok (.iaload, 1) := dc_46 (by decide +kernel)
theorem dX12_readsAct_27 : decode cX12_readsAct 27 = .ok (.iastore, 1) := dc_79 (by decide +kernel)
theorem dX12_readsAct_28 : decode cX12_readsAct 28 = .ok (.iconst 0, 1) := dc_3 (by decide +kernel)
theorem dX12_readsAct_29 : decode cX12_readsAct 29 = .ok (.istore_n 3, 1) := dc_62 (by decide +kernel)
theorem dX12_readsAct_30 : decode cX12_readsAct 30 = .ok (.iload_n 3, 1) := dc_29 (by decide +kernel)
theorem dX12_readsAct_31 : decode cX12_readsAct 31 = .ok (.aload_n 0, 1) := dc_42 (by decide +kernel)
theorem dX12_readsAct_32 : decode cX12_readsAct 32 = .ok (.getfield 7, 3) := dc_180 0 7 (by decide +kernel)
theorem dX12_readsAct_35 : decode cX12_readsAct 35 = .ok (.bipush 10, 2) := dc_16 10 10 (by decide +kernel)
theorem dX12_readsAct_37 : decode cX12_readsAct 37 = .ok (.iaload, 1) := dc_46 (by decide +kernel)
theorem dX12_readsAct_38 : decode cX12_readsAct 38 = .ok (.if_icmp .ge 35, 3) := dc_162 0 35 35 (by decide +kernel)
theorem dX12_readsAct_41 : decode cX12_readsAct 41 = .ok (.aload_n 0, 1) := dc_42 (by decide +kernel)
theorem dX12_readsAct_42 : decode cX12_readsAct 42 = .ok (.getfield 7, 3) := dc_180 0 7 (by decide +kernel)
theorem dX12_readsAct_45 : decode cX12_readsAct 45 = .ok (.sipush 680, 3) := dc_17 2 168 680 (by decide +kernel)
theorem dX12_readsAct_48 : decode cX12_readsAct 48 = .ok (.sipush 150, 3) := dc_17 0 150 150 (by decide +kernel)
theorem dX12_readsAct_51 : decode cX12_readsAct 51 = .ok (.iload_n 1, 1) := dc_27 (by decide +kernel)
theorem dX12_readsAct_52 : decode cX12_readsAct 52 = .ok (.imul, 1) := dc_104 (by decide +kernel)
theorem dX12_readsAct_53 : decode cX12_readsAct 53 = .ok (.iadd, 1) := dc_96 (by decide +kernel)
theorem dX12_readsAct_54 : decode cX12_readsAct 54 = .ok (.iload_n 3, 1) := dc_29 (by decide +kernel)
theorem dX12_readsAct_55 : decode cX12_readsAct 55 = .ok (.iadd, 1) := dc_96 (by decide +kernel)
theorem dX12_readsAct_56 : decode cX12_readsAct 56 = .ok (.aload_n 0, 1) := dc_42 (by decide +kernel)
theorem dX12_readsAct_57 : decode cX12_readsAct 57 = .ok (.getfield 7, 3) := dc_180 0 7 (by decide +kernel)
theorem dX12_readsAct_60 : decode cX12_readsAct 60 = .ok (.sipush 2620, 3) := dc_17 10 60 2620 (by decide +kernel)
theorem dX12_readsAct_63 : decode cX12_readsAct 63 = .ok (.iload_n 3, 1) := dc_29 (by decide +kernel)
theorem dX12_readsAct_64 : decode cX12_readsAct 64 = .ok (.iadd, 1) := dc_96 (by decide +kernel)
theorem dX12_readsAct_65 : decode cX12_readsAct 65 = .ok (.iaload, 1) := dc_46 (by decide +kernel)
theorem dX12_readsAct_66 : decode cX12_readsAct 66 = .ok (.iastore, 1) := dc_79 (by decide +kernel)
theorem dX12_readsAct_67 : decode cX12_readsAct 67 = .ok (.iinc 3 1, 3) := dc_132 3 1 1 (by decide +kernel)
theorem dX12_readsAct_70 : decode cX12_readsAct 70 = .ok (.goto (-40), 3) := dc_167 255 216 (-40) (by decide +kernel)
theorem dX12_readsAct_73 : decode cX12_readsAct 73 = .ok (.aload_n 0, 1) := dc_42 (by decide +kernel)
theorem dX12_readsAct_74 : decode cX12_readsAct 74 = .ok (.getfield 7, 3) := dc_180 0 7 (by decide +kernel)
theorem dX12_readsAct_77 : decode cX12_readsAct 77 = .ok (.bipush 10, 2) := dc_16 10 10 (by decide +kernel)
theorem dX12_readsAct_79 : decode cX12_readsAct 79 = .ok (.iconst 0, 1) := dc_3 (by decide +kernel)
theorem dX12_readsAct_80 : decode cX12_readsAct 80 = .ok (.iastore, 1) := dc_79 (by decide +kernel)
theorem dX12_readsAct_81 : decode cX12_readsAct 81 = .ok (.aload_n 0, 1) := dc_42 (by decide +kernel)
theorem dX12_readsAct_82 : decode cX12_readsAct 82 = .ok (.getfield 7, 3) := dc_180 0 7 (by decide +kernel)
theorem dX12_readsAct_85 : decode cX12_readsAct 85 = .ok (.sipush 24700, 3) := dc_17 96 124 24700 (by decide +kernel)
theorem dX12_readsAct_88 : decode cX12_readsAct 88 = .ok (.iload_n 1, 1) := dc_27 (by decide +kernel)
theorem dX12_readsAct_89 : decode cX12_readsAct 89 = .ok (.iadd, 1) := dc_96 (by decide +kernel)
theorem dX12_readsAct_90 : decode cX12_readsAct 90 = .ok (.iconst 0, 1) := dc_3 (by decide +kernel)
theorem dX12_readsAct_91 : decode cX12_readsAct 91 = .ok (.iastore, 1) := dc_79 (by decide +kernel)
theorem dX12_readsAct_92 : decode cX12_readsAct 92 = .ok (.aload_n 0, 1) := dc_42 (by decide +kernel)
theorem dX12_readsAct_93 : decode cX12_readsAct 93 = .ok (.iload_n 1, 1) := dc_27 (by decide +kernel)
theorem dX12_readsAct_94 : decode cX12_readsAct 94 = .ok (.putfield 132, 3) := dc_181 0 132 (by decide +kernel)
theorem dX12_readsAct_97 : decode cX12_readsAct 97 = .ok (.aload_n 0, 1) := dc_42 (by decide +kernel)
theorem dX12_readsAct_98 : decode cX12_readsAct 98 = .ok (.iconst 0, 1) := dc_3 (by decide +kernel)
theorem dX12_readsAct_99 : decode cX12_readsAct 99 = .ok (.putfield 129, 3) := dc_181 0 129 (by decide +kernel)
theorem dX12_readsAct_102 : decode cX12_readsAct 102 = .ok (.aload_n 0, 1) := dc_42 (by decide +kernel)
theorem dX12_readsAct_103 : decode cX12_readsAct 103 = .ok (.iconst 0, 1) := dc_3 (by decide +kernel)
theorem dX12_readsAct_104 : decode cX12_readsAct 104 = .ok (.putfield 186, 3) := dc_181 0 186 (by decide +kernel)
theorem dX12_readsAct_107 : decode cX12_readsAct 107 = .ok (.aload_n 0, 1) := dc_42 (by decide +kernel)
theorem dX12_readsAct_108 : decode cX12_readsAct 108 = .ok (.iconst 0, 1) := dc_3 (by decide +kernel)
theorem dX12_readsAct_109 : decode cX12_readsAct 109 = .ok (.putfield 135, 3) := dc_181 0 135 (by decide +kernel)
theorem dX12_readsAct_112 : decode cX12_readsAct 112 = .ok (.aload_n 0, 1) := dc_42 (by decide +kernel)
theorem dX12_readsAct_113 : decode cX12_readsAct 113 = .ok (.iconst (-1), 1) := dc_2 (by decide +kernel)
theorem dX12_readsAct_114 : decode cX12_readsAct 114 = .ok (.putfield 180, 3) := dc_181 0 180 (by decide +kernel)
theorem dX12_readsAct_117 : decode cX12_readsAct 117 = .ok (.aload_n 0, 1) := dc_42 (by decide +kernel)
theorem dX12_readsAct_118 : decode cX12_readsAct 118 = .ok (.iload_n 1, 1) := dc_27 (by decide +kernel)
theorem dX12_readsAct_119 : decode cX12_readsAct 119 = .ok (.invokevirtual 217, 3) := dc_182 0 217 (by decide +kernel)
theorem kw_7_3 : (Jvm.Cond.methodLink "ParishUnionModel" (217 : Nat) ({ cls := "ParishUnionModel", name := "reads", desc := "(I)V" } : Jvm.MethodName)) ∈ gT := gT_of (tb_7 _ (List.mem_of_getElem? (i := 3) rfl)) rfl
theorem kw_7_6 : (Jvm.Cond.code ({ cls := "ParishUnionModel", name := "reads", desc := "(I)V" } : Jvm.MethodName) prog_14_method_47_code (5 : Nat) (Option.none : Option Jvm.ClassFile.FieldType)) ∈ gT := gT_of (tb_7 _ (List.mem_of_getElem? (i := 6) rfl)) rfl
theorem okX12_reads : gQok yX12_reads cX12_reads 5 (Option.none : Option Jvm.ClassFile.FieldType) 1 := ⟨kw_7_6, kw_1_13, by decide +kernel, by decide +kernel, by decide +kernel⟩
theorem kw_7_5 : (Jvm.Cond.instanceMethod ({ cls := "ParishUnionModel", name := "reads", desc := "(I)V" } : Jvm.MethodName)) ∈ gT := gT_of (tb_7 _ (List.mem_of_getElem? (i := 5) rfl)) rfl
theorem kw_0_56 : (Jvm.Cond.selects "ParishUnionModel" ({ cls := "ParishUnionModel", name := "reads", desc := "(I)V" } : Jvm.MethodName) ({ cls := "ParishUnionModel", name := "reads", desc := "(I)V" } : Jvm.MethodName)) ∈ gT := gT_of (tb_0 _ (List.mem_of_getElem? (i := 56) rfl)) rfl
theorem dX12_readsAct_122 : decode cX12_readsAct 122 = .ok (.aload_n 0, 1) := dc_42 (by decide +kernel)
theorem dX12_readsAct_123 : decode cX12_readsAct 123 = .ok (.getfield 135, 3) := dc_180 0 135 (by decide +kernel)
theorem dX12_readsAct_126 : decode cX12_readsAct 126 = .ok (.ifCond .ne 45, 3) := dc_154 0 45 45 (by decide +kernel)
theorem dX12_readsAct_171 : decode cX12_readsAct 171 = .ok (.aload_n 0, 1) := dc_42 (by decide +kernel)
theorem dX12_readsAct_172 : decode cX12_readsAct 172 = .ok (.aload_n 0, 1) := dc_42 (by decide +kernel)
theorem dX12_readsAct_173 : decode cX12_readsAct 173 = .ok (.getfield 135, 3) := dc_180 0 135 (by decide +kernel)
theorem dX12_readsAct_176 : decode cX12_readsAct 176 = .ok (.ifCond .ne 20, 3) := dc_154 0 20 20 (by decide +kernel)
theorem dX12_readsAct_196 : decode cX12_readsAct 196 = .ok (.iconst 1, 1) := dc_4 (by decide +kernel)
theorem dX12_readsAct_197 : decode cX12_readsAct 197 = .ok (.goto 4, 3) := dc_167 0 4 4 (by decide +kernel)
theorem dX12_readsAct_201 : decode cX12_readsAct 201 = .ok (.putfield 135, 3) := dc_181 0 135 (by decide +kernel)
theorem dX12_readsAct_204 : decode cX12_readsAct 204 = .ok (.aload_n 0, 1) := dc_42 (by decide +kernel)
theorem dX12_readsAct_205 : decode cX12_readsAct 205 = .ok (.getfield 135, 3) := dc_180 0 135 (by decide +kernel)
theorem dX12_readsAct_208 : decode cX12_readsAct 208 = .ok (.ifCond .ne 7, 3) := dc_154 0 7 7 (by decide +kernel)
theorem dX12_readsAct_215 : decode cX12_readsAct 215 = .ok (.iconst 0, 1) := dc_3 (by decide +kernel)
theorem dX12_readsAct_216 : decode cX12_readsAct 216 = .ok (.ireturn, 1) := dc_172 (by decide +kernel)
theorem dX12_readsAct_129 : decode cX12_readsAct 129 = .ok (.aload_n 0, 1) := dc_42 (by decide +kernel)
theorem dX12_readsAct_130 : decode cX12_readsAct 130 = .ok (.getfield 7, 3) := dc_180 0 7 (by decide +kernel)
theorem dX12_readsAct_133 : decode cX12_readsAct 133 = .ok (.sipush 24700, 3) := dc_17 96 124 24700 (by decide +kernel)
theorem dX12_readsAct_136 : decode cX12_readsAct 136 = .ok (.iload_n 1, 1) := dc_27 (by decide +kernel)
theorem dX12_readsAct_137 : decode cX12_readsAct 137 = .ok (.iadd, 1) := dc_96 (by decide +kernel)
theorem dX12_readsAct_138 : decode cX12_readsAct 138 = .ok (.iaload, 1) := dc_46 (by decide +kernel)
theorem dX12_readsAct_139 : decode cX12_readsAct 139 = .ok (.bipush 8, 2) := dc_16 8 8 (by decide +kernel)
theorem dX12_readsAct_141 : decode cX12_readsAct 141 = .ok (.if_icmp .ge 30, 3) := dc_162 0 30 30 (by decide +kernel)
theorem dX12_readsAct_179 : decode cX12_readsAct 179 = .ok (.aload_n 0, 1) := dc_42 (by decide +kernel)
theorem dX12_readsAct_180 : decode cX12_readsAct 180 = .ok (.getfield 129, 3) := dc_180 0 129 (by decide +kernel)
theorem dX12_readsAct_183 : decode cX12_readsAct 183 = .ok (.aload_n 0, 1) := dc_42 (by decide +kernel)
theorem dX12_readsAct_184 : decode cX12_readsAct 184 = .ok (.getfield 7, 3) := dc_180 0 7 (by decide +kernel)
theorem dX12_readsAct_187 : decode cX12_readsAct 187 = .ok (.sipush 668, 3) := dc_17 2 156 668 (by decide +kernel)
theorem dX12_readsAct_190 : decode cX12_readsAct 190 = .ok (.iload_n 1, 1) := dc_27 (by decide +kernel)
theorem dX12_readsAct_191 : decode cX12_readsAct 191 = .ok (.iadd, 1) := dc_96 (by decide +kernel)
theorem dX12_readsAct_192 : decode cX12_readsAct 192 = .ok (.iaload, 1) := dc_46 (by decide +kernel)
theorem dX12_readsAct_193 : decode cX12_readsAct 193 = .ok (.if_icmp .eq 7, 3) := dc_159 0 7 7 (by decide +kernel)
theorem dX12_readsAct_200 : decode cX12_readsAct 200 = .ok (.iconst 0, 1) := dc_3 (by decide +kernel)
theorem dX12_readsAct_211 : decode cX12_readsAct 211 = .ok (.iconst 1, 1) := dc_4 (by decide +kernel)
theorem dX12_readsAct_212 : decode cX12_readsAct 212 = .ok (.goto 4, 3) := dc_167 0 4 4 (by decide +kernel)
theorem dX12_readsAct_144 : decode cX12_readsAct 144 = .ok (.aload_n 0, 1) := dc_42 (by decide +kernel)
theorem dX12_readsAct_145 : decode cX12_readsAct 145 = .ok (.invokevirtual 139, 3) := dc_182 0 139 (by decide +kernel)
theorem dX12_readsAct_148 : decode cX12_readsAct 148 = .ok (.bipush 59, 2) := dc_16 59 59 (by decide +kernel)
theorem dX12_readsAct_150 : decode cX12_readsAct 150 = .ok (.if_icmp .ne 21, 3) := dc_160 0 21 21 (by decide +kernel)
theorem dX12_readsAct_153 : decode cX12_readsAct 153 = .ok (.aload_n 0, 1) := dc_42 (by decide +kernel)
theorem dX12_readsAct_154 : decode cX12_readsAct 154 = .ok (.dup, 1) := dc_89 (by decide +kernel)
theorem dX12_readsAct_155 : decode cX12_readsAct 155 = .ok (.getfield 129, 3) := dc_180 0 129 (by decide +kernel)
theorem dX12_readsAct_158 : decode cX12_readsAct 158 = .ok (.iconst 1, 1) := dc_4 (by decide +kernel)
theorem dX12_readsAct_159 : decode cX12_readsAct 159 = .ok (.iadd, 1) := dc_96 (by decide +kernel)
theorem dX12_readsAct_160 : decode cX12_readsAct 160 = .ok (.putfield 129, 3) := dc_181 0 129 (by decide +kernel)
theorem dX12_readsAct_163 : decode cX12_readsAct 163 = .ok (.aload_n 0, 1) := dc_42 (by decide +kernel)
theorem dX12_readsAct_164 : decode cX12_readsAct 164 = .ok (.iload_n 1, 1) := dc_27 (by decide +kernel)
theorem dX12_readsAct_165 : decode cX12_readsAct 165 = .ok (.invokevirtual 217, 3) := dc_182 0 217 (by decide +kernel)
theorem dX12_readsAct_168 : decode cX12_readsAct 168 = .ok (.goto (-46), 3) := dc_167 255 210 (-46) (by decide +kernel)
abbrev R_X12_readsAct : Room := { frames := 132, cells := 0, slots := 0, locals := 5606 }
set_option maxRecDepth 100000 in
set_option maxHeartbeats 4000000 in
theorem s_X12_readsAct {l : Launch} {n0 : Nat} {D : va_G} {cA : Nat → ClassId} {M : gM} (a : Int) (r_a : 0 ≤ a ∧ a ≤ 10) (b : Int) (r_b : 0 ≤ b ∧ b ≤ 300) {sz : Nat} (hsz : 206 ≤ sz) (I : gI sz M) (C : gC sz M) (W : gW 191 M)  : Met l yX12_readsAct (gWsOf yX12_readsAct cX12_readsAct 4 (Option.some Jvm.ClassFile.FieldType.boolean)) R_X12_readsAct (gPc n0 D cA [gA n0 190, gJ a, gJ b] M sz) (gQi n0 D cA sz (fun z M1 => (0 ≤ z ∧ z ≤ 1) ∧ gI sz M1 ∧ gC sz M1 ∧ gFr 2475884173752466105132122112 M M1)) 0 0 (fun q => n0 ≤ q) := by
  refine gMetZ [gA n0 190, gJ a, gJ b] (by decide) (Nat.le_of_ble_eq_true rfl) ⟨rfl, rfl⟩ ?_
  intro p e s m args below meth cd Q X hq
  have X : gCx p s m args meth cd n0 D cA "ParishUnionModel" cX12_readsAct 4 := X
  show G p l e R_X12_readsAct s m args below meth cd n0 D cA 4 Q 0 0 M sz 0 [(0, gA n0 190), (1, gJ a), (2, gJ b)] []
  obtain ⟨v1, hv1, rv1⟩ := gRd I (by decide) (gsz hsz (by decide)) (rs_PERS (k := 1) (by omega)).1
  refine g_aload_n (n := 1) X 0 dX12_readsAct_0 rfl rfl rfl ?_
  refine gg_12_1 (n := 4) (z := 191) X (by decide) (gsz hsz (by decide)) lay_190 kw_6_27 dX12_readsAct_1 rfl (rf_190_1 I (gsz hsz (by decide))) (by decide) ?_
  refine g_sipush (n := 7) X dX12_readsAct_4 (by decide +kernel) rfl ?_
  refine g_iload_n (n := 8) X 1 dX12_readsAct_7 rfl rfl rfl ?_
  refine g_iadd (n := 9) (z := a + 656) X dX12_readsAct_8 (by omega) rfl ?_
  refine g_iload_n (n := 10) X 2 dX12_readsAct_9 rfl rfl rfl ?_
  refine g_iast (n := 11) X (by decide) (gsz hsz (by decide)) lay_191 (by omega) (by omega) (by decide) dX12_readsAct_10 rfl ?_
  refine G.nm (fun M2 e3 => ?_)
  have IM2 : gI sz M2 := gI.set I (rs_AWEEK (k := a + 656) (by omega)).1 (by omega) e3
  have CM2 : gC sz M2 := gC.set C (rs_AWEEK (k := a + 656) (by omega)).2.1 e3
  refine g_aload_n (n := 12) X 0 dX12_readsAct_11 rfl rfl rfl ?_
  refine gg_12_1 (n := 15) (z := 191) X (by decide) (gsz hsz (by decide)) lay_190 kw_6_27 dX12_readsAct_12 rfl (rf_190_1 IM2 (gsz hsz (by decide))) (by decide) ?_
  refine g_sipush (n := 18) X dX12_readsAct_15 (by decide +kernel) rfl ?_
  refine g_iload_n (n := 19) X 1 dX12_readsAct_18 rfl rfl rfl ?_
  refine g_iadd (n := 20) (z := a + 668) X dX12_readsAct_19 (by omega) rfl ?_
  refine g_aload_n (n := 21) X 0 dX12_readsAct_20 rfl rfl rfl ?_
  refine gg_12_1 (n := 24) (z := 191) X (by decide) (gsz hsz (by decide)) lay_190 kw_6_27 dX12_readsAct_21 rfl (rf_190_1 IM2 (gsz hsz (by decide))) (by decide) ?_
  refine g_bipush (n := 26) X dX12_readsAct_24 (by decide +kernel) rfl ?_
  obtain ⟨v4, hv4, rv4⟩ := gRd IM2 (by decide) (gsz hsz (by decide)) (rs_TAPED (k := 10) (by omega)).1
  refine g_iald2 (n := 27) (v := v4) X (by decide) (gsz hsz (by decide)) lay_191 (by omega) (by omega) (by decide) dX12_readsAct_26 rfl hv4 ?_
  refine g_iast (n := 28) X (by decide) (gsz hsz (by decide)) lay_191 (by omega) (by omega) (by decide) dX12_readsAct_27 rfl ?_
  refine G.nm (fun M5 e6 => ?_)
  have IM5 : gI sz M5 := gI.set IM2 (rs_ALONG (k := a + 668) (by omega)).1 (by omega) e6
  have CM5 : gC sz M5 := gC.set CM2 (rs_ALONG (k := a + 668) (by omega)).2.1 e6
  refine g_iconst (n := 29) X dX12_readsAct_28 rfl ?_
  refine g_istore_n (n := 30) (L' := [(3, gJ 0), (0, gA n0 190), (1, gJ a), (2, gJ b)]) X dX12_readsAct_29 rfl (by decide) rfl rfl ?_
  have j9 : ∀ (N2602 : Nat) (v7 : Int) (M8 : gM) , (0 ≤ v7 ∧ v7 ≤ 150) → gI sz M8 → gC sz M8 → gFr 4503599627370496 M5 M8 → (150 - v7).toNat < N2602 → G p l e R_X12_readsAct s m args below meth cd n0 D cA 4 Q 0 0 M8 sz 30 [(0, gA n0 190), (1, gJ a), (3, gJ v7)] [] := by
    intro N2602; induction N2602 with
    | zero => intro v7 M8 rv7 IM8 CM8 FM8 hm2604; exfalso; omega
    | succ N2602 ih2603 =>
      intro v7 M8 rv7 IM8 CM8 FM8 hm2604
      refine g_iload_n (n := 31) X 2 dX12_readsAct_30 rfl rfl rfl ?_
      refine g_aload_n (n := 32) X 0 dX12_readsAct_31 rfl rfl rfl ?_
      refine gg_12_1 (n := 35) (z := 191) X (by decide) (gsz hsz (by decide)) lay_190 kw_6_27 dX12_readsAct_32 rfl (rf_190_1 IM8 (gsz hsz (by decide))) (by decide) ?_
      refine g_bipush (n := 37) X dX12_readsAct_35 (by decide +kernel) rfl ?_
      refine g_iald2 (n := 38) (v := v4) X (by decide) (gsz hsz (by decide)) lay_191 (by omega) (by omega) (by decide) dX12_readsAct_37 rfl ((gFr.at FM8 (rs_TAPED (k := 10) (by omega)).2.2 rfl).trans ((congrFun (congrFun e6 _) _).trans ((gset_ne (by omega)).trans hv4))) ?_
      refine g_icmp_ge (n := 41) (tgt := 73) X dX12_readsAct_38 (by decide) (by omega) (by omega) rfl (fun c2605 => ?_) (fun c2605 => ?_)
      · refine g_aload_n (n := 74) X 0 dX12_readsAct_73 rfl rfl rfl ?_
        refine gg_12_1 (n := 77) (z := 191) X (by decide) (gsz hsz (by decide)) lay_190 kw_6_27 dX12_readsAct_74 rfl (rf_190_1 IM8 (gsz hsz (by decide))) (by decide) ?_
        refine g_bipush (n := 79) X dX12_readsAct_77 (by decide +kernel) rfl ?_
        refine g_iconst (n := 80) X dX12_readsAct_79 rfl ?_
        refine g_iast (n := 81) X (by decide) (gsz hsz (by decide)) lay_191 (by omega) (by omega) (by decide) dX12_readsAct_80 rfl ?_
        refine G.nm (fun M2609 e2610 => ?_)
        have IM2609 : gI sz M2609 := gI.set IM8 (rs_TAPED (k := 10) (by omega)).1 (by omega) e2610
        have CM2609 : gC sz M2609 := gC.set CM8 (rs_TAPED (k := 10) (by omega)).2.1 e2610
        refine g_aload_n (n := 82) X 0 dX12_readsAct_81 rfl rfl rfl ?_
        refine gg_12_1 (n := 85) (z := 191) X (by decide) (gsz hsz (by decide)) lay_190 kw_6_27 dX12_readsAct_82 rfl (rf_190_1 IM2609 (gsz hsz (by decide))) (by decide) ?_
        refine g_sipush (n := 88) X dX12_readsAct_85 (by decide +kernel) rfl ?_
        refine g_iload_n (n := 89) X 1 dX12_readsAct_88 rfl rfl rfl ?_
        refine g_iadd (n := 90) (z := a + 24700) X dX12_readsAct_89 (by omega) rfl ?_
        refine g_iconst (n := 91) X dX12_readsAct_90 rfl ?_
        refine g_iast (n := 92) X (by decide) (gsz hsz (by decide)) lay_191 (by omega) (by omega) (by decide) dX12_readsAct_91 rfl ?_
        refine G.nm (fun M2611 e2612 => ?_)
        have IM2611 : gI sz M2611 := gI.set IM2609 (rs_LCOUNT (k := a + 24700) (by omega)).1 (by omega) e2612
        have CM2611 : gC sz M2611 := gC.set CM2609 (rs_LCOUNT (k := a + 24700) (by omega)).2.1 e2612
        refine g_aload_n (n := 93) X 0 dX12_readsAct_92 rfl rfl rfl ?_
        refine g_iload_n (n := 94) X 1 dX12_readsAct_93 rfl rfl rfl ?_
        refine gp_12_11 (n := 97) X (by decide) (gsz hsz (by decide)) lay_190 kw_6_37 dX12_readsAct_94 rfl ?_
        refine G.nm (fun M2613 e2614 => ?_)
        have IM2613 : gI sz M2613 := gI.set IM2611 rc_190_11.1 (by omega) e2614
        have CM2613 : gC sz M2613 := gC.set CM2611 rc_190_11.2.1 e2614
        refine g_aload_n (n := 98) X 0 dX12_readsAct_97 rfl rfl rfl ?_
        refine g_iconst (n := 99) X dX12_readsAct_98 rfl ?_
        refine gp_12_12 (n := 102) X (by decide) (gsz hsz (by decide)) lay_190 kw_6_38 dX12_readsAct_99 rfl ?_
        refine G.nm (fun M2615 e2616 => ?_)
        have IM2615 : gI sz M2615 := gI.set IM2613 rc_190_12.1 (by omega) e2616
        have CM2615 : gC sz M2615 := gC.set CM2613 rc_190_12.2.1 e2616
        refine g_aload_n (n := 103) X 0 dX12_readsAct_102 rfl rfl rfl ?_
        refine g_iconst (n := 104) X dX12_readsAct_103 rfl ?_
        refine gp_12_14 (n := 107) X (by decide) (gsz hsz (by decide)) lay_190 kw_6_40 dX12_readsAct_104 rfl ?_
        refine G.nm (fun M2617 e2618 => ?_)
        have IM2617 : gI sz M2617 := gI.set IM2615 rc_190_14.1 (by omega) e2618
        have CM2617 : gC sz M2617 := gC.set CM2615 rc_190_14.2.1 e2618
        refine g_aload_n (n := 108) X 0 dX12_readsAct_107 rfl rfl rfl ?_
        refine g_iconst (n := 109) X dX12_readsAct_108 rfl ?_
        refine gp_12_13 (n := 112) X (by decide) (gsz hsz (by decide)) lay_190 kw_6_39 (by omega) dX12_readsAct_109 rfl ?_
        refine G.nm (fun M2619 e2620 => ?_)
        have IM2619 : gI sz M2619 := gI.set IM2617 rc_190_13.1 (by omega) e2620
        have CM2619 : gC sz M2619 := gC.set CM2617 rc_190_13.2.1 e2620
        refine g_aload_n (n := 113) X 0 dX12_readsAct_112 rfl rfl rfl ?_
        refine g_iconst (n := 114) X dX12_readsAct_113 rfl ?_
        refine gp_12_15 (n := 117) X (by decide) (gsz hsz (by decide)) lay_190 kw_6_41 dX12_readsAct_114 rfl ?_
        refine G.nm (fun M2621 e2622 => ?_)
        have IM2621 : gI sz M2621 := gI.set IM2619 rc_190_15.1 (by omega) e2622
        have CM2621 : gC sz M2621 := gC.set CM2619 rc_190_15.2.1 e2622
        refine g_aload_n (n := 118) X 0 dX12_readsAct_117 rfl rfl rfl ?_
        refine g_iload_n (n := 119) X 1 dX12_readsAct_118 rfl rfl rfl ?_
        have tM2621_12 : M2621 190 12 = 0 := ((congrFun (congrFun e2622 _) _).trans ((gset_ne (by omega)).trans ((congrFun (congrFun e2620 _) _).trans ((gset_ne (by omega)).trans ((congrFun (congrFun e2618 _) _).trans ((gset_ne (by omega)).trans ((congrFun (congrFun e2616 _) _).trans (gset_eq _ _ _ _))))))))
        have tM2621_14 : M2621 190 14 = 0 := ((congrFun (congrFun e2622 _) _).trans ((gset_ne (by omega)).trans ((congrFun (congrFun e2620 _) _).trans ((gset_ne (by omega)).trans ((congrFun (congrFun e2618 _) _).trans (gset_eq _ _ _ _))))))
        refine g_callVv (n := 122) (As := [gJ a]) (rest := []) (cs1 := 0) (ss1 := 0) X (s_X12_reads a (by omega) hsz IM2621 CM2621 (gW.fr (S := 3984501241113076563968) W ⟨sz, hsz, I⟩ (gFr.s (gFr.s (gFr.s (gFr.s (gFr.s (gFr.s (gFr.s (gFr.c (gFr.s (gFr.s gFr.rf e3 (rs_AWEEK (k := a + 656) (by omega)).2.2 rfl) e6 (rs_ALONG (k := a + 668) (by omega)).2.2 rfl) FM8 rfl) e2610 (rs_TAPED (k := 10) (by omega)).2.2 rfl) e2612 (rs_LCOUNT (k := a + 24700) (by omega)).2.2 rfl) e2614 rc_190_11.2.2 rfl) e2616 rc_190_12.2.2 rfl) e2618 rc_190_14.2.2 rfl) e2620 rc_190_13.2.2 rfl) e2622 rc_190_15.2.2 rfl) rfl) (by have q1 := ((congrFun (congrFun e2622 _) _).trans (gset_eq _ _ _ _)); have q2 := ((congrFun (congrFun e2622 _) _).trans ((gset_ne (by omega)).trans ((congrFun (congrFun e2620 _) _).trans ((gset_ne (by omega)).trans ((congrFun (congrFun e2618 _) _).trans ((gset_ne (by omega)).trans ((congrFun (congrFun e2616 _) _).trans ((gset_ne (by omega)).trans ((congrFun (congrFun e2614 _) _).trans ((gset_ne (by omega)).trans ((congrFun (congrFun e2612 _) _).trans ((gset_ne (by omega)).trans ((congrFun (congrFun e2610 _) _).trans ((gset_ne (by omega)).trans ((gFr.at FM8 (rs_PERS (k := 1) (by omega)).2.2 rfl).trans ((congrFun (congrFun e6 _) _).trans ((gset_ne (by omega)).trans ((congrFun (congrFun e3 _) _).trans ((gset_ne (by omega)).trans hv1))))))))))))))))))); omega) (by have h1 := ((congrFun (congrFun e2622 _) _).trans ((gset_ne (by omega)).trans ((congrFun (congrFun e2620 _) _).trans ((gset_ne (by omega)).trans ((congrFun (congrFun e2618 _) _).trans (gset_eq _ _ _ _)))))); omega) (by have q1 := ((congrFun (congrFun e2622 _) _).trans ((gset_ne (by omega)).trans ((congrFun (congrFun e2620 _) _).trans ((gset_ne (by omega)).trans ((congrFun (congrFun e2618 _) _).trans ((gset_ne (by omega)).trans ((congrFun (congrFun e2616 _) _).trans ((gset_ne (by omega)).trans ((congrFun (congrFun e2614 _) _).trans ((gset_ne (by omega)).trans ((congrFun (congrFun e2612 _) _).trans (gset_eq _ _ _ _)))))))))))); omega)) okX12_reads kw_7_3 ⟨kw_7_5, kw_0_56⟩ ⟨rfl, rfl⟩ ⟨Nat.le_of_ble_eq_true rfl, Nat.le_of_ble_eq_true rfl⟩ rfl (by decide) (gsz hsz (by decide)) lay_190 rfl rfl (Nat.le_of_ble_eq_true rfl) ⟨Nat.le_of_ble_eq_true rfl, Nat.le_of_ble_eq_true rfl⟩ rfl rfl dX12_readsAct_119 rfl (fun M2624 P2625 => ?_)
        obtain ⟨IM2624, CM2624, FM2624, xM2624⟩ := P2625
        obtain ⟨v2626, hv2626, rv2626⟩ := gRd IM2624 (by decide) (gsz hsz (by decide)) rc_190_12.1
        have j2628 : ∀ (N2704 : Nat) (M2627 : gM) , gI sz M2627 → gC sz M2627 → gFr 2475881517421301898770644992 M2624 M2627 → (M2627 190 14 = 0) → (150 - M2627 190 12).toNat < N2704 → G p l e R_X12_readsAct s m args below meth cd n0 D cA 4 Q 0 0 M2627 sz 122 [(0, gA n0 190), (1, gJ a)] [] := by
          intro N2704; induction N2704 with
          | zero => intro M2627 IM2627 CM2627 FM2627 ho5 hm2706; exfalso; omega
          | succ N2704 ih2705 =>
            intro M2627 IM2627 CM2627 FM2627 ho5 hm2706
            refine g_aload_n (n := 123) X 0 dX12_readsAct_122 rfl rfl rfl ?_
            obtain ⟨v2707, hv2707, rv2707⟩ := gRd IM2627 (by decide) (gsz hsz (by decide)) rc_190_13.1
            refine gg_12_13 (n := 126) (z := v2707) X (by decide) (gsz hsz (by decide)) lay_190 kw_6_39 dX12_readsAct_123 rfl hv2707 ?_
            refine g_if_ne (n := 129) (tgt := 171) X dX12_readsAct_126 (by decide) (by omega) rfl (fun c2708 => ?_) (fun c2708 => ?_)
            · refine g_aload_n (n := 172) X 0 dX12_readsAct_171 rfl rfl rfl ?_
              refine g_aload_n (n := 173) X 0 dX12_readsAct_172 rfl rfl rfl ?_
              refine gg_12_13 (n := 176) (z := v2707) X (by decide) (gsz hsz (by decide)) lay_190 kw_6_39 dX12_readsAct_173 rfl hv2707 ?_
              refine g_if_ne (n := 179) (tgt := 196) X dX12_readsAct_176 (by decide) (by omega) rfl (fun c2709 => ?_) (fun c2709 => by exfalso; omega)
              refine g_iconst (n := 197) X dX12_readsAct_196 rfl ?_
              refine g_goto (tgt := 201) X dX12_readsAct_197 (by decide) ?_
              refine gp_12_13 (n := 204) X (by decide) (gsz hsz (by decide)) lay_190 kw_6_39 (by omega) dX12_readsAct_201 rfl ?_
              refine G.nm (fun M2710 e2711 => ?_)
              have IM2710 : gI sz M2710 := gI.set IM2627 rc_190_13.1 (by omega) e2711
              have CM2710 : gC sz M2710 := gC.set CM2627 rc_190_13.2.1 e2711
              refine g_aload_n (n := 205) X 0 dX12_readsAct_204 rfl rfl rfl ?_
              refine gg_12_13 (n := 208) (z := 1) X (by decide) (gsz hsz (by decide)) lay_190 kw_6_39 dX12_readsAct_205 rfl ((congrFun (congrFun e2711 _) _).trans (gset_eq _ _ _ _)) ?_
              refine g_if_ne (n := 211) (tgt := 215) X dX12_readsAct_208 (by decide) (by omega) rfl (fun c2712 => ?_) (fun c2712 => by exfalso; omega)
              refine g_iconst (n := 216) X dX12_readsAct_215 rfl ?_
              exact hq _ _ _ _ dX12_readsAct_216 (by omega) ⟨by omega, IM2710, CM2710, (gFr.s (gFr.c (gFr.c (gFr.s (gFr.s (gFr.s (gFr.s (gFr.s (gFr.s (gFr.s (gFr.c (gFr.s (gFr.s gFr.rf e3 (rs_AWEEK (k := a + 656) (by omega)).2.2 rfl) e6 (rs_ALONG (k := a + 668) (by omega)).2.2 rfl) FM8 rfl) e2610 (rs_TAPED (k := 10) (by omega)).2.2 rfl) e2612 (rs_LCOUNT (k := a + 24700) (by omega)).2.2 rfl) e2614 rc_190_11.2.2 rfl) e2616 rc_190_12.2.2 rfl) e2618 rc_190_14.2.2 rfl) e2620 rc_190_13.2.2 rfl) e2622 rc_190_15.2.2 rfl) FM2624 rfl) FM2627 rfl) e2711 rc_190_13.2.2 rfl)⟩
            · refine g_aload_n (n := 130) X 0 dX12_readsAct_129 rfl rfl rfl ?_
              refine gg_12_1 (n := 133) (z := 191) X (by decide) (gsz hsz (by decide)) lay_190 kw_6_27 dX12_readsAct_130 rfl (rf_190_1 IM2627 (gsz hsz (by decide))) (by decide) ?_
              refine g_sipush (n := 136) X dX12_readsAct_133 (by decide +kernel) rfl ?_
              refine g_iload_n (n := 137) X 1 dX12_readsAct_136 rfl rfl rfl ?_
              refine g_iadd (n := 138) (z := a + 24700) X dX12_readsAct_137 (by omega) rfl ?_
              obtain ⟨v2713, hv2713, rv2713⟩ := gRd IM2627 (by decide) (gsz hsz (by decide)) (rs_LCOUNT (k := a + 24700) (by omega)).1
              refine g_iald2 (n := 139) (v := v2713) X (by decide) (gsz hsz (by decide)) lay_191 (by omega) (by omega) (by decide) dX12_readsAct_138 rfl hv2713 ?_
              refine g_bipush (n := 141) X dX12_readsAct_139 (by decide +kernel) rfl ?_
              refine g_icmp_ge (n := 144) (tgt := 171) X dX12_readsAct_141 (by decide) (by omega) (by omega) rfl (fun c2714 => ?_) (fun c2714 => ?_)
              · refine g_aload_n (n := 172) X 0 dX12_readsAct_171 rfl rfl rfl ?_
                refine g_aload_n (n := 173) X 0 dX12_readsAct_172 rfl rfl rfl ?_
                refine gg_12_13 (n := 176) (z := v2707) X (by decide) (gsz hsz (by decide)) lay_190 kw_6_39 dX12_readsAct_173 rfl hv2707 ?_
                refine g_if_ne (n := 179) (tgt := 196) X dX12_readsAct_176 (by decide) (by omega) rfl (fun c2715 => by exfalso; omega) (fun c2715 => ?_)
                refine g_aload_n (n := 180) X 0 dX12_readsAct_179 rfl rfl rfl ?_
                obtain ⟨v2716, hv2716, rv2716⟩ := gRd IM2627 (by decide) (gsz hsz (by decide)) rc_190_12.1
                refine gg_12_12 (n := 183) (z := v2716) X (by decide) (gsz hsz (by decide)) lay_190 kw_6_38 dX12_readsAct_180 rfl hv2716 ?_
                refine g_aload_n (n := 184) X 0 dX12_readsAct_183 rfl rfl rfl ?_
                refine gg_12_1 (n := 187) (z := 191) X (by decide) (gsz hsz (by decide)) lay_190 kw_6_27 dX12_readsAct_184 rfl (rf_190_1 IM2627 (gsz hsz (by decide))) (by decide) ?_
                refine g_sipush (n := 190) X dX12_readsAct_187 (by decide +kernel) rfl ?_
                refine g_iload_n (n := 191) X 1 dX12_readsAct_190 rfl rfl rfl ?_
                refine g_iadd (n := 192) (z := a + 668) X dX12_readsAct_191 (by omega) rfl ?_
                obtain ⟨v2717, hv2717, rv2717⟩ := gRd IM2627 (by decide) (gsz hsz (by decide)) (rs_ALONG (k := a + 668) (by omega)).1
                refine g_iald2 (n := 193) (v := v2717) X (by decide) (gsz hsz (by decide)) lay_191 (by omega) (by omega) (by decide) dX12_readsAct_192 rfl hv2717 ?_
                refine g_icmp_eq (n := 196) (tgt := 200) X dX12_readsAct_193 (by decide) (by omega) (by omega) rfl (fun c2718 => ?_) (fun c2718 => ?_)
                · refine g_iconst (n := 201) X dX12_readsAct_200 rfl ?_
                  refine gp_12_13 (n := 204) X (by decide) (gsz hsz (by decide)) lay_190 kw_6_39 (by omega) dX12_readsAct_201 rfl ?_
                  refine G.nm (fun M2719 e2720 => ?_)
                  have IM2719 : gI sz M2719 := gI.set IM2627 rc_190_13.1 (by omega) e2720
                  have CM2719 : gC sz M2719 := gC.set CM2627 rc_190_13.2.1 e2720
                  refine g_aload_n (n := 205) X 0 dX12_readsAct_204 rfl rfl rfl ?_
                  refine gg_12_13 (n := 208) (z := 0) X (by decide) (gsz hsz (by decide)) lay_190 kw_6_39 dX12_readsAct_205 rfl ((congrFun (congrFun e2720 _) _).trans (gset_eq _ _ _ _)) ?_
                  refine g_if_ne (n := 211) (tgt := 215) X dX12_readsAct_208 (by decide) (by omega) rfl (fun c2721 => by exfalso; omega) (fun c2721 => ?_)
                  refine g_iconst (n := 212) X dX12_readsAct_211 rfl ?_
                  refine g_goto (tgt := 216) X dX12_readsAct_212 (by decide) ?_
                  exact hq _ _ _ _ dX12_readsAct_216 (by omega) ⟨by omega, IM2719, CM2719, (gFr.s (gFr.c (gFr.c (gFr.s (gFr.s (gFr.s (gFr.s (gFr.s (gFr.s (gFr.s (gFr.c (gFr.s (gFr.s gFr.rf e3 (rs_AWEEK (k := a + 656) (by omega)).2.2 rfl) e6 (rs_ALONG (k := a + 668) (by omega)).2.2 rfl) FM8 rfl) e2610 (rs_TAPED (k := 10) (by omega)).2.2 rfl) e2612 (rs_LCOUNT (k := a + 24700) (by omega)).2.2 rfl) e2614 rc_190_11.2.2 rfl) e2616 rc_190_12.2.2 rfl) e2618 rc_190_14.2.2 rfl) e2620 rc_190_13.2.2 rfl) e2622 rc_190_15.2.2 rfl) FM2624 rfl) FM2627 rfl) e2720 rc_190_13.2.2 rfl)⟩
                · refine g_iconst (n := 197) X dX12_readsAct_196 rfl ?_
                  refine g_goto (tgt := 201) X dX12_readsAct_197 (by decide) ?_
                  refine gp_12_13 (n := 204) X (by decide) (gsz hsz (by decide)) lay_190 kw_6_39 (by omega) dX12_readsAct_201 rfl ?_
                  refine G.nm (fun M2722 e2723 => ?_)
                  have IM2722 : gI sz M2722 := gI.set IM2627 rc_190_13.1 (by omega) e2723
                  have CM2722 : gC sz M2722 := gC.set CM2627 rc_190_13.2.1 e2723
                  refine g_aload_n (n := 205) X 0 dX12_readsAct_204 rfl rfl rfl ?_
                  refine gg_12_13 (n := 208) (z := 1) X (by decide) (gsz hsz (by decide)) lay_190 kw_6_39 dX12_readsAct_205 rfl ((congrFun (congrFun e2723 _) _).trans (gset_eq _ _ _ _)) ?_
                  refine g_if_ne (n := 211) (tgt := 215) X dX12_readsAct_208 (by decide) (by omega) rfl (fun c2724 => ?_) (fun c2724 => by exfalso; omega)
                  refine g_iconst (n := 216) X dX12_readsAct_215 rfl ?_
                  exact hq _ _ _ _ dX12_readsAct_216 (by omega) ⟨by omega, IM2722, CM2722, (gFr.s (gFr.c (gFr.c (gFr.s (gFr.s (gFr.s (gFr.s (gFr.s (gFr.s (gFr.s (gFr.c (gFr.s (gFr.s gFr.rf e3 (rs_AWEEK (k := a + 656) (by omega)).2.2 rfl) e6 (rs_ALONG (k := a + 668) (by omega)).2.2 rfl) FM8 rfl) e2610 (rs_TAPED (k := 10) (by omega)).2.2 rfl) e2612 (rs_LCOUNT (k := a + 24700) (by omega)).2.2 rfl) e2614 rc_190_11.2.2 rfl) e2616 rc_190_12.2.2 rfl) e2618 rc_190_14.2.2 rfl) e2620 rc_190_13.2.2 rfl) e2622 rc_190_15.2.2 rfl) FM2624 rfl) FM2627 rfl) e2723 rc_190_13.2.2 rfl)⟩
              · refine g_aload_n (n := 145) X 0 dX12_readsAct_144 rfl rfl rfl ?_
                refine g_callVi (n := 148) (As := []) (rest := []) (cs1 := 0) (ss1 := 0) X (s_X12_here  hsz IM2627 CM2627 ) okX12_here kw_7_26 ⟨kw_7_28, kw_0_58⟩ ⟨rfl, rfl⟩ ⟨Nat.le_of_ble_eq_true rfl, Nat.le_of_ble_eq_true rfl⟩ rfl (by decide) (gsz hsz (by decide)) lay_190 rfl rfl (Nat.le_of_ble_eq_true rfl) ⟨Nat.le_of_ble_eq_true rfl, Nat.le_of_ble_eq_true rfl⟩ rfl rfl dX12_readsAct_145 rfl (fun v2725 M2726 P2727 => ?_)
                obtain ⟨rfl, rv2725, xv2725⟩ := P2727
                refine g_bipush (n := 150) X dX12_readsAct_148 (by decide +kernel) rfl ?_
                refine g_icmp_ne (n := 153) (tgt := 171) X dX12_readsAct_150 (by decide) (by omega) (by omega) rfl (fun c2728 => ?_) (fun c2728 => ?_)
                · refine g_aload_n (n := 172) X 0 dX12_readsAct_171 rfl rfl rfl ?_
                  refine g_aload_n (n := 173) X 0 dX12_readsAct_172 rfl rfl rfl ?_
                  refine gg_12_13 (n := 176) (z := v2707) X (by decide) (gsz hsz (by decide)) lay_190 kw_6_39 dX12_readsAct_173 rfl hv2707 ?_
                  refine g_if_ne (n := 179) (tgt := 196) X dX12_readsAct_176 (by decide) (by omega) rfl (fun c2729 => by exfalso; omega) (fun c2729 => ?_)
                  refine g_aload_n (n := 180) X 0 dX12_readsAct_179 rfl rfl rfl ?_
                  obtain ⟨v2730, hv2730, rv2730⟩ := gRd IM2627 (by decide) (gsz hsz (by decide)) rc_190_12.1
                  refine gg_12_12 (n := 183) (z := v2730) X (by decide) (gsz hsz (by decide)) lay_190 kw_6_38 dX12_readsAct_180 rfl hv2730 ?_
                  refine g_aload_n (n := 184) X 0 dX12_readsAct_183 rfl rfl rfl ?_
                  refine gg_12_1 (n := 187) (z := 191) X (by decide) (gsz hsz (by decide)) lay_190 kw_6_27 dX12_readsAct_184 rfl (rf_190_1 IM2627 (gsz hsz (by decide))) (by decide) ?_
                  refine g_sipush (n := 190) X dX12_readsAct_187 (by decide +kernel) rfl ?_
                  refine g_iload_n (n := 191) X 1 dX12_readsAct_190 rfl rfl rfl ?_
                  refine g_iadd (n := 192) (z := a + 668) X dX12_readsAct_191 (by omega) rfl ?_
                  obtain ⟨v2731, hv2731, rv2731⟩ := gRd IM2627 (by decide) (gsz hsz (by decide)) (rs_ALONG (k := a + 668) (by omega)).1
                  refine g_iald2 (n := 193) (v := v2731) X (by decide) (gsz hsz (by decide)) lay_191 (by omega) (by omega) (by decide) dX12_readsAct_192 rfl hv2731 ?_
                  refine g_icmp_eq (n := 196) (tgt := 200) X dX12_readsAct_193 (by decide) (by omega) (by omega) rfl (fun c2732 => ?_) (fun c2732 => ?_)
                  · refine g_iconst (n := 201) X dX12_readsAct_200 rfl ?_
                    refine gp_12_13 (n := 204) X (by decide) (gsz hsz (by decide)) lay_190 kw_6_39 (by omega) dX12_readsAct_201 rfl ?_
                    refine G.nm (fun M2733 e2734 => ?_)
                    have IM2733 : gI sz M2733 := gI.set IM2627 rc_190_13.1 (by omega) e2734
                    have CM2733 : gC sz M2733 := gC.set CM2627 rc_190_13.2.1 e2734
                    refine g_aload_n (n := 205) X 0 dX12_readsAct_204 rfl rfl rfl ?_
                    refine gg_12_13 (n := 208) (z := 0) X (by decide) (gsz hsz (by decide)) lay_190 kw_6_39 dX12_readsAct_205 rfl ((congrFun (congrFun e2734 _) _).trans (gset_eq _ _ _ _)) ?_
                    refine g_if_ne (n := 211) (tgt := 215) X dX12_readsAct_208 (by decide) (by omega) rfl (fun c2735 => by exfalso; omega) (fun c2735 => ?_)
                    refine g_iconst (n := 212) X dX12_readsAct_211 rfl ?_
                    refine g_goto (tgt := 216) X dX12_readsAct_212 (by decide) ?_
                    exact hq _ _ _ _ dX12_readsAct_216 (by omega) ⟨by omega, IM2733, CM2733, (gFr.s (gFr.c (gFr.c (gFr.s (gFr.s (gFr.s (gFr.s (gFr.s (gFr.s (gFr.s (gFr.c (gFr.s (gFr.s gFr.rf e3 (rs_AWEEK (k := a + 656) (by omega)).2.2 rfl) e6 (rs_ALONG (k := a + 668) (by omega)).2.2 rfl) FM8 rfl) e2610 (rs_TAPED (k := 10) (by omega)).2.2 rfl) e2612 (rs_LCOUNT (k := a + 24700) (by omega)).2.2 rfl) e2614 rc_190_11.2.2 rfl) e2616 rc_190_12.2.2 rfl) e2618 rc_190_14.2.2 rfl) e2620 rc_190_13.2.2 rfl) e2622 rc_190_15.2.2 rfl) FM2624 rfl) FM2627 rfl) e2734 rc_190_13.2.2 rfl)⟩
                  · refine g_iconst (n := 197) X dX12_readsAct_196 rfl ?_
                    refine g_goto (tgt := 201) X dX12_readsAct_197 (by decide) ?_
                    refine gp_12_13 (n := 204) X (by decide) (gsz hsz (by decide)) lay_190 kw_6_39 (by omega) dX12_readsAct_201 rfl ?_
                    refine G.nm (fun M2736 e2737 => ?_)
                    have IM2736 : gI sz M2736 := gI.set IM2627 rc_190_13.1 (by omega) e2737
                    have CM2736 : gC sz M2736 := gC.set CM2627 rc_190_13.2.1 e2737
                    refine g_aload_n (n := 205) X 0 dX12_readsAct_204 rfl rfl rfl ?_
                    refine gg_12_13 (n := 208) (z := 1) X (by decide) (gsz hsz (by decide)) lay_190 kw_6_39 dX12_readsAct_205 rfl ((congrFun (congrFun e2737 _) _).trans (gset_eq _ _ _ _)) ?_
                    refine g_if_ne (n := 211) (tgt := 215) X dX12_readsAct_208 (by decide) (by omega) rfl (fun c2738 => ?_) (fun c2738 => by exfalso; omega)
                    refine g_iconst (n := 216) X dX12_readsAct_215 rfl ?_
                    exact hq _ _ _ _ dX12_readsAct_216 (by omega) ⟨by omega, IM2736, CM2736, (gFr.s (gFr.c (gFr.c (gFr.s (gFr.s (gFr.s (gFr.s (gFr.s (gFr.s (gFr.s (gFr.c (gFr.s (gFr.s gFr.rf e3 (rs_AWEEK (k := a + 656) (by omega)).2.2 rfl) e6 (rs_ALONG (k := a + 668) (by omega)).2.2 rfl) FM8 rfl) e2610 (rs_TAPED (k := 10) (by omega)).2.2 rfl) e2612 (rs_LCOUNT (k := a + 24700) (by omega)).2.2 rfl) e2614 rc_190_11.2.2 rfl) e2616 rc_190_12.2.2 rfl) e2618 rc_190_14.2.2 rfl) e2620 rc_190_13.2.2 rfl) e2622 rc_190_15.2.2 rfl) FM2624 rfl) FM2627 rfl) e2737 rc_190_13.2.2 rfl)⟩
                · refine g_aload_n (n := 154) X 0 dX12_readsAct_153 rfl rfl rfl ?_
                  refine g_dup (n := 155) X dX12_readsAct_154 rfl rfl ?_
                  obtain ⟨v2739, hv2739, rv2739⟩ := gRd IM2627 (by decide) (gsz hsz (by decide)) rc_190_12.1
                  refine gg_12_12 (n := 158) (z := v2739) X (by decide) (gsz hsz (by decide)) lay_190 kw_6_38 dX12_readsAct_155 rfl hv2739 ?_
                  refine g_iconst (n := 159) X dX12_readsAct_158 rfl ?_
                  refine g_iadd (n := 160) (z := v2739 + 1) X dX12_readsAct_159 (by omega) rfl ?_
                  refine gp_12_12 (n := 163) X (by decide) (gsz hsz (by decide)) lay_190 kw_6_38 dX12_readsAct_160 rfl ?_
                  refine G.nm (fun M2740 e2741 => ?_)
                  have IM2740 : gI sz M2740 := gI.set IM2627 rc_190_12.1 (by omega) e2741
                  have CM2740 : gC sz M2740 := gC.set CM2627 rc_190_12.2.1 e2741
                  refine g_aload_n (n := 164) X 0 dX12_readsAct_163 rfl rfl rfl ?_
                  refine g_iload_n (n := 165) X 1 dX12_readsAct_164 rfl rfl rfl ?_
                  have tM2740_12 : M2740 190 12 = v2739 + 1 := ((congrFun (congrFun e2741 _) _).trans (gset_eq _ _ _ _))
                  have tM2740_14 : M2740 190 14 = 0 := ((congrFun (congrFun e2741 _) _).trans ((gset_ne (by omega)).trans ho5))
                  refine g_callVv (n := 168) (As := [gJ a]) (rest := []) (cs1 := 0) (ss1 := 0) X (s_X12_reads a (by omega) hsz IM2740 CM2740 (gW.fr (S := 2475884173752466105132122112) W ⟨sz, hsz, I⟩ (gFr.s (gFr.c (gFr.c (gFr.s (gFr.s (gFr.s (gFr.s (gFr.s (gFr.s (gFr.s (gFr.c (gFr.s (gFr.s gFr.rf e3 (rs_AWEEK (k := a + 656) (by omega)).2.2 rfl) e6 (rs_ALONG (k := a + 668) (by omega)).2.2 rfl) FM8 rfl) e2610 (rs_TAPED (k := 10) (by omega)).2.2 rfl) e2612 (rs_LCOUNT (k := a + 24700) (by omega)).2.2 rfl) e2614 rc_190_11.2.2 rfl) e2616 rc_190_12.2.2 rfl) e2618 rc_190_14.2.2 rfl) e2620 rc_190_13.2.2 rfl) e2622 rc_190_15.2.2 rfl) FM2624 rfl) FM2627 rfl) e2741 rc_190_12.2.2 rfl) rfl) (by have q1 := ((congrFun (congrFun e2741 _) _).trans ((gset_ne (by omega)).trans ((gFr.at FM2627 rc_190_15.2.2 rfl).trans ((gFr.at FM2624 rc_190_15.2.2 rfl).trans ((congrFun (congrFun e2622 _) _).trans (gset_eq _ _ _ _)))))); have q2 := ((congrFun (congrFun e2741 _) _).trans ((gset_ne (by omega)).trans ((gFr.at FM2627 (rs_PERS (k := 1) (by omega)).2.2 rfl).trans ((gFr.at FM2624 (rs_PERS (k := 1) (by omega)).2.2 rfl).trans ((congrFun (congrFun e2622 _) _).trans ((gset_ne (by omega)).trans ((congrFun (congrFun e2620 _) _).trans ((gset_ne (by omega)).trans ((congrFun (congrFun e2618 _) _).trans ((gset_ne (by omega)).trans ((congrFun (congrFun e2616 _) _).trans ((gset_ne (by omega)).trans ((congrFun (congrFun e2614 _) _).trans ((gset_ne (by omega)).trans ((congrFun (congrFun e2612 _) _).trans ((gset_ne (by omega)).trans ((congrFun (congrFun e2610 _) _).trans ((gset_ne (by omega)).trans ((gFr.at FM8 (rs_PERS (k := 1) (by omega)).2.2 rfl).trans ((congrFun (congrFun e6 _) _).trans ((gset_ne (by omega)).trans ((congrFun (congrFun e3 _) _).trans ((gset_ne (by omega)).trans hv1))))))))))))))))))))))); omega) (by have h1 := ((congrFun (congrFun e2741 _) _).trans ((gset_ne (by omega)).trans ho5)); omega) (by have q1 := ((congrFun (congrFun e2741 _) _).trans ((gset_ne (by omega)).trans hv2713)); omega)) okX12_reads kw_7_3 ⟨kw_7_5, kw_0_56⟩ ⟨rfl, rfl⟩ ⟨Nat.le_of_ble_eq_true rfl, Nat.le_of_ble_eq_true rfl⟩ rfl (by decide) (gsz hsz (by decide)) lay_190 rfl rfl (Nat.le_of_ble_eq_true rfl) ⟨Nat.le_of_ble_eq_true rfl, Nat.le_of_ble_eq_true rfl⟩ rfl rfl dX12_readsAct_165 rfl (fun M2743 P2744 => ?_)
                  obtain ⟨IM2743, CM2743, FM2743, xM2743⟩ := P2744
                  obtain ⟨v2745, hv2745, rv2745⟩ := gRd IM2743 (by decide) (gsz hsz (by decide)) rc_190_12.1
                  refine g_goto (tgt := 122) X dX12_readsAct_168 (by decide) ?_
                  exact ih2705 M2743 IM2743 CM2743 (gFr.c (gFr.s (gFr.c gFr.rf FM2627 rfl) e2741 rc_190_12.2.2 rfl) FM2743 rfl) (by have h1 := (xM2743.2.trans ((congrFun (congrFun e2741 _) _).trans ((gset_ne (by omega)).trans ho5))); omega) (by have h1 := hv2745; omega)
        refine G.sub (L' := [(0, gA n0 190), (1, gJ a)]) [0, 1] rfl ?_
        exact j2628 _ M2624 IM2624 CM2624 gFr.rf (by have h1 := (xM2624.2.trans ((congrFun (congrFun e2622 _) _).trans ((gset_ne (by omega)).trans ((congrFun (congrFun e2620 _) _).trans ((gset_ne (by omega)).trans ((congrFun (congrFun e2618 _) _).trans (gset_eq _ _ _ _))))))); omega) (Nat.lt_succ_self _)
      · refine g_aload_n (n := 42) X 0 dX12_readsAct_41 rfl rfl rfl ?_
        refine gg_12_1 (n := 45) (z := 191) X (by decide) (gsz hsz (by decide)) lay_190 kw_6_27 dX12_readsAct_42 rfl (rf_190_1 IM8 (gsz hsz (by decide))) (by decide) ?_
        refine g_sipush (n := 48) X dX12_readsAct_45 (by decide +kernel) rfl ?_
        refine g_sipush (n := 51) X dX12_readsAct_48 (by decide +kernel) rfl ?_
        refine g_iload_n (n := 52) X 1 dX12_readsAct_51 rfl rfl rfl ?_
        refine g_imul (n := 53) (z := 150 * a) X dX12_readsAct_52 rfl rfl ?_
        refine g_iadd (n := 54) (z := 680 + (150 * a)) X dX12_readsAct_53 rfl rfl ?_
        refine g_iload_n (n := 55) X 2 dX12_readsAct_54 rfl rfl rfl ?_
        refine g_iadd (n := 56) (z := (680 + (150 * a)) + v7) X dX12_readsAct_55 rfl rfl ?_
        refine g_aload_n (n := 57) X 0 dX12_readsAct_56 rfl rfl rfl ?_
        refine gg_12_1 (n := 60) (z := 191) X (by decide) (gsz hsz (by decide)) lay_190 kw_6_27 dX12_readsAct_57 rfl (rf_190_1 IM8 (gsz hsz (by decide))) (by decide) ?_
        refine g_sipush (n := 63) X dX12_readsAct_60 (by decide +kernel) rfl ?_
        refine g_iload_n (n := 64) X 2 dX12_readsAct_63 rfl rfl rfl ?_
        refine g_iadd (n := 65) (z := v7 + 2620) X dX12_readsAct_64 (by omega) rfl ?_
        obtain ⟨v2746, hv2746, rv2746⟩ := gRd IM8 (by decide) (gsz hsz (by decide)) (rs_TAPE (k := v7 + 2620) (by omega)).1
        refine g_iald2 (n := 66) (v := v2746) X (by decide) (gsz hsz (by decide)) lay_191 (by omega) (by omega) (by decide) dX12_readsAct_65 rfl hv2746 ?_
        refine g_iast (n := 67) X (by decide) (gsz hsz (by decide)) lay_191 (by omega) (by omega) (by decide) dX12_readsAct_66 rfl ?_
        refine G.nm (fun M2747 e2748 => ?_)
        have IM2747 : gI sz M2747 := gI.set IM8 (rs_ATEXT (k := (680 + (150 * a)) + v7) (by omega)).1 (by omega) e2748
        have CM2747 : gC sz M2747 := gC.set CM8 (rs_ATEXT (k := (680 + (150 * a)) + v7) (by omega)).2.1 e2748
        refine g_iinc (n := 70) (w := v7 + 1) (L' := [(3, gJ (v7 + 1)), (0, gA n0 190), (1, gJ a)]) X 2 dX12_readsAct_67 rfl rfl (by decide) rfl rfl ?_
        refine g_goto (tgt := 30) X dX12_readsAct_70 (by decide) ?_
        refine G.sub (L' := [(0, gA n0 190), (1, gJ a), (3, gJ (v7 + 1))]) [1, 2, 0] rfl ?_
        exact ih2603 (v7 + 1) M2747 (by omega) IM2747 CM2747 (gFr.s (gFr.c gFr.rf FM8 rfl) e2748 (rs_ATEXT (k := (680 + (150 * a)) + v7) (by omega)).2.2 rfl) (by omega)
  refine G.sub (L' := [(0, gA n0 190), (1, gJ a), (3, gJ 0)]) [1, 2, 0] rfl ?_
  exact j9 _ 0 M5 (by omega) IM5 CM5 gFr.rf (Nat.lt_succ_self _)
theorem dX12_text_0 : decode cX12_text 0 = .ok (.iload_n 1, 1) := dc_27 (by decide +kernel)
theorem dX12_text_1 : decode cX12_text 1 = .ok (.invokestatic 220, 3) := dc_184 0 220 (by decide +kernel)
theorem dX12_text_4 : decode cX12_text 4 = .ok (.ifCond .ne 6, 3) := dc_154 0 6 6 (by decide +kernel)
theorem dX12_text_10 : decode cX12_text 10 = .ok (.aload_n 0, 1) := dc_42 (by decide +kernel)
theorem dX12_text_11 : decode cX12_text 11 = .ok (.getfield 7, 3) := dc_180 0 7 (by decide +kernel)
theorem dX12_text_14 : decode cX12_text 14 = .ok (.iconst 4, 1) := dc_7 (by decide +kernel)
theorem dX12_text_15 : decode cX12_text 15 = .ok (.iaload, 1) := dc_46 (by decide +kernel)
theorem dX12_text_16 : decode cX12_text 16 = .ok (.bipush 10, 2) := dc_16 10 10 (by decide +kernel)
theorem dX12_text_18 : decode cX12_text 18 = .ok (.if_icmp .ne 6, 3) := dc_160 0 6 6 (by decide +kernel)
theorem dX12_text_24 : decode cX12_text 24 = .ok (.aload_n 0, 1) := dc_42 (by decide +kernel)
theorem dX12_text_25 : decode cX12_text 25 = .ok (.aload_n 0, 1) := dc_42 (by decide +kernel)
theorem dX12_text_26 : decode cX12_text 26 = .ok (.getfield 7, 3) := dc_180 0 7 (by decide +kernel)
theorem dX12_text_29 : decode cX12_text 29 = .ok (.iconst 4, 1) := dc_7 (by decide +kernel)
theorem dX12_text_30 : decode cX12_text 30 = .ok (.iaload, 1) := dc_46 (by decide +kernel)
theorem dX12_text_31 : decode cX12_text 31 = .ok (.iload_n 1, 1) := dc_27 (by decide +kernel)
theorem dX12_text_32 : decode cX12_text 32 = .ok (.invokevirtual 223, 3) := dc_182 0 223 (by decide +kernel)
theorem kw_6_239 : (Jvm.Cond.methodLink "ParishUnionModel" (223 : Nat) ({ cls := "ParishUnionModel", name := "readsAct", desc := "(II)Z" } : Jvm.MethodName)) ∈ gT := gT_of (tb_6 _ (List.mem_of_getElem? (i := 239) rfl)) rfl
theorem kw_7_2 : (Jvm.Cond.code ({ cls := "ParishUnionModel", name := "readsAct", desc := "(II)Z" } : Jvm.MethodName) prog_14_method_48_code (4 : Nat) (Option.some Jvm.ClassFile.FieldType.boolean)) ∈ gT := gT_of (tb_7 _ (List.mem_of_getElem? (i := 2) rfl)) rfl
theorem okX12_readsAct : gQok yX12_readsAct cX12_readsAct 4 (Option.some Jvm.ClassFile.FieldType.boolean) 2 := ⟨kw_7_2, kw_1_13, by decide +kernel, by decide +kernel, by decide +kernel⟩
theorem kw_7_1 : (Jvm.Cond.instanceMethod ({ cls := "ParishUnionModel", name := "readsAct", desc := "(II)Z" } : Jvm.MethodName)) ∈ gT := gT_of (tb_7 _ (List.mem_of_getElem? (i := 1) rfl)) rfl
theorem kw_0_55 : (Jvm.Cond.selects "ParishUnionModel" ({ cls := "ParishUnionModel", name := "readsAct", desc := "(II)Z" } : Jvm.MethodName) ({ cls := "ParishUnionModel", name := "readsAct", desc := "(II)Z" } : Jvm.MethodName)) ∈ gT := gT_of (tb_0 _ (List.mem_of_getElem? (i := 55) rfl)) rfl
theorem dX12_text_35 : decode cX12_text 35 = .ok (.ifCond .ne 11, 3) := dc_154 0 11 11 (by decide +kernel)
theorem dX12_text_46 : decode cX12_text 46 = .ok (.aload_n 0, 1) := dc_42 (by decide +kernel)
theorem dX12_text_47 : decode cX12_text 47 = .ok (.getfield 7, 3) := dc_180 0 7 (by decide +kernel)
theorem dX12_text_50 : decode cX12_text 50 = .ok (.iconst 4, 1) := dc_7 (by decide +kernel)
theorem dX12_text_51 : decode cX12_text 51 = .ok (.dup2, 1) := dc_92 (by decide +kernel)
theorem dX12_text_52 : decode cX12_text 52 = .ok (.iaload, 1) := dc_46 (by decide +kernel)
theorem dX12_text_53 : decode cX12_text 53 = .ok (.iconst 1, 1) := dc_4 (by decide +kernel)
theorem dX12_text_54 : decode cX12_text 54 = .ok (.iadd, 1) := dc_96 (by decide +kernel)
theorem dX12_text_55 : decode cX12_text 55 = .ok (.iastore, 1) := dc_79 (by decide +kernel)
theorem dX12_text_56 : decode cX12_text 56 = .ok (.aload_n 0, 1) := dc_42 (by decide +kernel)
theorem dX12_text_57 : decode cX12_text 57 = .ok (.dup, 1) := dc_89 (by decide +kernel)
theorem dX12_text_58 : decode cX12_text 58 = .ok (.getfield 44, 3) := dc_180 0 44 (by decide +kernel)
theorem dX12_text_61 : decode cX12_text 61 = .ok (.iconst 1, 1) := dc_4 (by decide +kernel)
theorem dX12_text_62 : decode cX12_text 62 = .ok (.iadd, 1) := dc_96 (by decide +kernel)
theorem dX12_text_63 : decode cX12_text 63 = .ok (.putfield 44, 3) := dc_181 0 44 (by decide +kernel)
theorem dX12_text_66 : decode cX12_text 66 = .ok (.aload_n 0, 1) := dc_42 (by decide +kernel)
theorem dX12_text_67 : decode cX12_text 67 = .ok (.getfield 7, 3) := dc_180 0 7 (by decide +kernel)
theorem dX12_text_70 : decode cX12_text 70 = .ok (.iconst 4, 1) := dc_7 (by decide +kernel)
theorem dX12_text_71 : decode cX12_text 71 = .ok (.iaload, 1) := dc_46 (by decide +kernel)
theorem dX12_text_72 : decode cX12_text 72 = .ok (.iconst 1, 1) := dc_4 (by decide +kernel)
theorem dX12_text_73 : decode cX12_text 73 = .ok (.isub, 1) := dc_100 (by decide +kernel)
theorem dX12_text_74 : decode cX12_text 74 = .ok (.ireturn, 1) := dc_172 (by decide +kernel)
theorem dX12_text_38 : decode cX12_text 38 = .ok (.bipush (-10), 2) := dc_16 246 (-10) (by decide +kernel)
theorem dX12_text_40 : decode cX12_text 40 = .ok (.aload_n 0, 1) := dc_42 (by decide +kernel)
theorem dX12_text_41 : decode cX12_text 41 = .ok (.getfield 129, 3) := dc_180 0 129 (by decide +kernel)
theorem dX12_text_44 : decode cX12_text 44 = .ok (.isub, 1) := dc_100 (by decide +kernel)
theorem dX12_text_45 : decode cX12_text 45 = .ok (.ireturn, 1) := dc_172 (by decide +kernel)
theorem dX12_text_21 : decode cX12_text 21 = .ok (.bipush (-4), 2) := dc_16 252 (-4) (by decide +kernel)
theorem dX12_text_23 : decode cX12_text 23 = .ok (.ireturn, 1) := dc_172 (by decide +kernel)
theorem dX12_text_7 : decode cX12_text 7 = .ok (.bipush (-2), 2) := dc_16 254 (-2) (by decide +kernel)
theorem dX12_text_9 : decode cX12_text 9 = .ok (.ireturn, 1) := dc_172 (by decide +kernel)
abbrev R_X12_text : Room := { frames := 133, cells := 0, slots := 0, locals := 5629 }
set_option maxRecDepth 100000 in
set_option maxHeartbeats 4000000 in
theorem s_X12_text {l : Launch} {n0 : Nat} {D : va_G} {cA : Nat → ClassId} {M : gM} (a : Int) (r_a : -2147483648 ≤ a ∧ a ≤ 2147483647) {sz : Nat} (hsz : 206 ≤ sz) (I : gI sz M) (C : gC sz M) (W : gW 191 M) (q_191_4 : 0 ≤ M 191 4 ∧ M 191 4 ≤ 10)  : Met l yX12_text (gWsOf yX12_text cX12_text 2 (Option.some Jvm.ClassFile.FieldType.int)) R_X12_text (gPc n0 D cA [gA n0 190, gJ a] M sz) (gQi n0 D cA sz (fun z M1 => (-160 ≤ z ∧ z ≤ 9) ∧ gI sz M1 ∧ gC sz M1 ∧ gFr 2475884764048276738715680768 M M1 ∧ (M1 191 4 ≤ 10))) 0 0 (fun q => n0 ≤ q) := by
  refine gMetI [gA n0 190, gJ a] (by decide) (Nat.le_of_ble_eq_true rfl) ⟨rfl, rfl⟩ ?_
  intro p e s m args below meth cd Q X hq
  have X : gCx p s m args meth cd n0 D cA "ParishUnionModel" cX12_text 2 := X
  show G p l e R_X12_text s m args below meth cd n0 D cA 2 Q 0 0 M sz 0 [(0, gA n0 190), (1, gJ a)] []
  obtain ⟨v1, hv1, rv1⟩ := gRd I (by decide) (gsz hsz (by decide)) (rs_PERS (k := 1) (by omega)).1
  obtain ⟨v2, hv2, rv2⟩ := gRd I (by decide) (gsz hsz (by decide)) (rs_NA (k := 4) (by omega)).1
  refine g_iload_n (n := 1) X 1 dX12_text_0 rfl rfl rfl ?_
  refine g_callSi (n := 4) (As := [gJ a]) (rest := []) (cs1 := 0) (ss1 := 0) X (s_X12_isWeek a (by omega) hsz I C ) okX12_isWeek kw_6_236 kw_6_237 ⟨rfl, rfl⟩ ⟨Nat.le_of_ble_eq_true rfl, Nat.le_of_ble_eq_true rfl⟩ rfl rfl (Nat.le_of_ble_eq_true rfl) ⟨Nat.le_of_ble_eq_true rfl, Nat.le_of_ble_eq_true rfl⟩ rfl rfl dX12_text_1 rfl (fun v3 M4 P5 => ?_)
  obtain ⟨rfl, rv3, xv3⟩ := P5
  refine g_if_ne (n := 7) (tgt := 10) X dX12_text_4 (by decide) (by omega) rfl (fun c6 => ?_) (fun c6 => ?_)
  · refine g_aload_n (n := 11) X 0 dX12_text_10 rfl rfl rfl ?_
    refine gg_12_1 (n := 14) (z := 191) X (by decide) (gsz hsz (by decide)) lay_190 kw_6_27 dX12_text_11 rfl (rf_190_1 I (gsz hsz (by decide))) (by decide) ?_
    refine g_iconst (n := 15) X dX12_text_14 rfl ?_
    refine g_iald2 (n := 16) (v := v2) X (by decide) (gsz hsz (by decide)) lay_191 (by omega) (by omega) (by decide) dX12_text_15 rfl hv2 ?_
    refine g_bipush (n := 18) X dX12_text_16 (by decide +kernel) rfl ?_
    refine g_icmp_ne (n := 21) (tgt := 24) X dX12_text_18 (by decide) (by omega) (by omega) rfl (fun c7 => ?_) (fun c7 => ?_)
    · refine g_aload_n (n := 25) X 0 dX12_text_24 rfl rfl rfl ?_
      refine g_aload_n (n := 26) X 0 dX12_text_25 rfl rfl rfl ?_
      refine gg_12_1 (n := 29) (z := 191) X (by decide) (gsz hsz (by decide)) lay_190 kw_6_27 dX12_text_26 rfl (rf_190_1 I (gsz hsz (by decide))) (by decide) ?_
      refine g_iconst (n := 30) X dX12_text_29 rfl ?_
      refine g_iald2 (n := 31) (v := v2) X (by decide) (gsz hsz (by decide)) lay_191 (by omega) (by omega) (by decide) dX12_text_30 rfl hv2 ?_
      refine g_iload_n (n := 32) X 1 dX12_text_31 rfl rfl rfl ?_
      refine g_callVi (n := 35) (As := [gJ v2, gJ a]) (rest := []) (cs1 := 0) (ss1 := 0) X (s_X12_readsAct v2 (by omega) a (by omega) hsz I C W) okX12_readsAct kw_6_239 ⟨kw_7_1, kw_0_55⟩ ⟨rfl, rfl⟩ ⟨Nat.le_of_ble_eq_true rfl, Nat.le_of_ble_eq_true rfl⟩ rfl (by decide) (gsz hsz (by decide)) lay_190 rfl rfl (Nat.le_of_ble_eq_true rfl) ⟨Nat.le_of_ble_eq_true rfl, Nat.le_of_ble_eq_true rfl⟩ rfl rfl dX12_text_32 rfl (fun v8 M9 P10 => ?_)
      obtain ⟨rv8, IM9, CM9, FM9⟩ := P10
      refine g_if_ne (n := 38) (tgt := 46) X dX12_text_35 (by decide) (by omega) rfl (fun c11 => ?_) (fun c11 => ?_)
      · refine g_aload_n (n := 47) X 0 dX12_text_46 rfl rfl rfl ?_
        refine gg_12_1 (n := 50) (z := 191) X (by decide) (gsz hsz (by decide)) lay_190 kw_6_27 dX12_text_47 rfl (rf_190_1 IM9 (gsz hsz (by decide))) (by decide) ?_
        refine g_iconst (n := 51) X dX12_text_50 rfl ?_
        refine g_dup2 (n := 52) X dX12_text_51 rfl rfl rfl ?_
        refine g_iald2 (n := 53) (v := v2) X (by decide) (gsz hsz (by decide)) lay_191 (by omega) (by omega) (by decide) dX12_text_52 rfl ((gFr.at FM9 (rs_NA (k := 4) (by omega)).2.2 rfl).trans hv2) ?_
        refine g_iconst (n := 54) X dX12_text_53 rfl ?_
        refine g_iadd (n := 55) (z := v2 + 1) X dX12_text_54 (by omega) rfl ?_
        refine g_iast (n := 56) X (by decide) (gsz hsz (by decide)) lay_191 (by omega) (by omega) (by decide) dX12_text_55 rfl ?_
        refine G.nm (fun M12 e13 => ?_)
        have IM12 : gI sz M12 := gI.set IM9 (rs_NA (k := 4) (by omega)).1 (by omega) e13
        have CM12 : gC sz M12 := gC.set CM9 (rs_NA (k := 4) (by omega)).2.1 e13
        refine g_aload_n (n := 57) X 0 dX12_text_56 rfl rfl rfl ?_
        refine g_dup (n := 58) X dX12_text_57 rfl rfl ?_
        obtain ⟨v14, hv14, rv14⟩ := gRd IM12 (by decide) (gsz hsz (by decide)) rc_190_19.1
        refine gg_12_19 (n := 61) (z := v14) X (by decide) (gsz hsz (by decide)) lay_190 kw_6_45 dX12_text_58 rfl hv14 ?_
        refine g_iconst (n := 62) X dX12_text_61 rfl ?_
        refine g_iaddA (n := 63) X dX12_text_62 rfl (fun v15 rv15 xv15 => ?_)
        clear xv15
        refine gp_12_19 (n := 66) X (by decide) (gsz hsz (by decide)) lay_190 kw_6_45 dX12_text_63 rfl ?_
        refine G.nm (fun M16 e17 => ?_)
        have IM16 : gI sz M16 := gI.set IM12 rc_190_19.1 (by omega) e17
        have CM16 : gC sz M16 := gC.set CM12 rc_190_19.2.1 e17
        refine g_aload_n (n := 67) X 0 dX12_text_66 rfl rfl rfl ?_
        refine gg_12_1 (n := 70) (z := 191) X (by decide) (gsz hsz (by decide)) lay_190 kw_6_27 dX12_text_67 rfl (rf_190_1 IM16 (gsz hsz (by decide))) (by decide) ?_
        refine g_iconst (n := 71) X dX12_text_70 rfl ?_
        refine g_iald2 (n := 72) (v := v2 + 1) X (by decide) (gsz hsz (by decide)) lay_191 (by omega) (by omega) (by decide) dX12_text_71 rfl ((congrFun (congrFun e17 _) _).trans ((gset_ne (by omega)).trans ((congrFun (congrFun e13 _) _).trans (gset_eq _ _ _ _)))) ?_
        refine g_iconst (n := 73) X dX12_text_72 rfl ?_
        refine g_isub (n := 74) (z := v2) X dX12_text_73 (by omega) rfl ?_
        exact hq _ _ _ _ dX12_text_74 ⟨by omega, IM16, CM16, (gFr.s (gFr.s (gFr.c gFr.rf FM9 rfl) e13 (rs_NA (k := 4) (by omega)).2.2 rfl) e17 rc_190_19.2.2 rfl), by have q1 := ((congrFun (congrFun e17 _) _).trans ((gset_ne (by omega)).trans ((congrFun (congrFun e13 _) _).trans (gset_eq _ _ _ _)))); omega⟩
      · refine g_bipush (n := 40) X dX12_text_38 (by decide +kernel) rfl ?_
        refine g_aload_n (n := 41) X 0 dX12_text_40 rfl rfl rfl ?_
        obtain ⟨v18, hv18, rv18⟩ := gRd IM9 (by decide) (gsz hsz (by decide)) rc_190_12.1
        refine gg_12_12 (n := 44) (z := v18) X (by decide) (gsz hsz (by decide)) lay_190 kw_6_38 dX12_text_41 rfl hv18 ?_
        refine g_isub (n := 45) (z := (-10) - v18) X dX12_text_44 rfl rfl ?_
        exact hq _ _ _ _ dX12_text_45 ⟨by omega, IM9, CM9, (gFr.c gFr.rf FM9 rfl), by have q1 := ((gFr.at FM9 (rs_NA (k := 4) (by omega)).2.2 rfl).trans hv2); omega⟩
    · refine g_bipush (n := 23) X dX12_text_21 (by decide +kernel) rfl ?_
      exact hq _ _ _ _ dX12_text_23 ⟨by omega, I, C, gFr.rf, by have q1 := hv2; omega⟩
  · refine g_bipush (n := 9) X dX12_text_7 (by decide +kernel) rfl ?_
    exact hq _ _ _ _ dX12_text_9 ⟨by omega, I, C, gFr.rf, by have q1 := hv2; omega⟩
theorem dX12_firstOf_0 : decode cX12_firstOf 0 = .ok (.aload_n 0, 1) := dc_42 (by decide +kernel)
theorem dX12_firstOf_1 : decode cX12_firstOf 1 = .ok (.iload_n 1, 1) := dc_27 (by decide +kernel)
theorem dX12_firstOf_2 : decode cX12_firstOf 2 = .ok (.aload_n 0, 1) := dc_42 (by decide +kernel)
theorem dX12_firstOf_3 : decode cX12_firstOf 3 = .ok (.getfield 7, 3) := dc_180 0 7 (by decide +kernel)
theorem dX12_firstOf_6 : decode cX12_firstOf 6 = .ok (.iconst 0, 1) := dc_3 (by decide +kernel)
theorem dX12_firstOf_7 : decode cX12_firstOf 7 = .ok (.iaload, 1) := dc_46 (by decide +kernel)
theorem dX12_firstOf_8 : decode cX12_firstOf 8 = .ok (.invokevirtual 230, 3) := dc_182 0 230 (by decide +kernel)
theorem dX12_firstOf_11 : decode cX12_firstOf 11 = .ok (.istore_n 3, 1) := dc_62 (by decide +kernel)
theorem dX12_firstOf_12 : decode cX12_firstOf 12 = .ok (.iconst 0, 1) := dc_3 (by decide +kernel)
theorem dX12_firstOf_13 : decode cX12_firstOf 13 = .ok (.istore 4, 2) := dc_54 4 (by decide +kernel)
theorem dX12_firstOf_15 : decode cX12_firstOf 15 = .ok (.iload_n 3, 1) := dc_29 (by decide +kernel)
theorem dX12_firstOf_16 : decode cX12_firstOf 16 = .ok (.iconst (-1), 1) := dc_2 (by decide +kernel)
theorem dX12_firstOf_17 : decode cX12_firstOf 17 = .ok (.if_icmp .eq 108, 3) := dc_159 0 108 108 (by decide +kernel)
theorem dX12_firstOf_125 : decode cX12_firstOf 125 = .ok (.iconst (-1), 1) := dc_2 (by decide +kernel)
theorem dX12_firstOf_126 : decode cX12_firstOf 126 = .ok (.ireturn, 1) := dc_172 (by decide +kernel)
theorem dX12_firstOf_20 : decode cX12_firstOf 20 = .ok (.iload 4, 2) := dc_21 4 (by decide +kernel)
theorem dX12_firstOf_22 : decode cX12_firstOf 22 = .ok (.aload_n 0, 1) := dc_42 (by decide +kernel)
theorem dX12_firstOf_23 : decode cX12_firstOf 23 = .ok (.getfield 7, 3) := dc_180 0 7 (by decide +kernel)
theorem dX12_firstOf_26 : decode cX12_firstOf 26 = .ok (.sipush 24700, 3) := dc_17 96 124 24700 (by decide +kernel)
theorem dX12_firstOf_29 : decode cX12_firstOf 29 = .ok (.iload_n 3, 1) := dc_29 (by decide +kernel)
theorem dX12_firstOf_30 : decode cX12_firstOf 30 = .ok (.iadd, 1) := dc_96 (by decide +kernel)
theorem dX12_firstOf_31 : decode cX12_firstOf 31 = .ok (.iaload, 1) := dc_46 (by decide +kernel)
theorem dX12_firstOf_32 : decode cX12_firstOf 32 = .ok (.if_icmp .ge 93, 3) := dc_162 0 93 93 (by decide +kernel)
theorem dX12_firstOf_35 : decode cX12_firstOf 35 = .ok (.aload_n 0, 1) := dc_42 (by decide +kernel)
theorem dX12_firstOf_36 : decode cX12_firstOf 36 = .ok (.getfield 7, 3) := dc_180 0 7 (by decide +kernel)
theorem dX12_firstOf_39 : decode cX12_firstOf 39 = .ok (.sipush 24720, 3) := dc_17 96 144 24720 (by decide +kernel)
theorem dX12_firstOf_42 : decode cX12_firstOf 42 = .ok (.bipush 8, 2) := dc_16 8 8 (by decide +kernel)
theorem dX12_firstOf_44 : decode cX12_firstOf 44 = .ok (.iload_n 3, 1) := dc_29 (by decide +kernel)
theorem dX12_firstOf_45 : decode cX12_firstOf 45 = .ok (.imul, 1) := dc_104 (by decide +kernel)
theorem dX12_firstOf_46 : decode cX12_firstOf 46 = .ok (.iadd, 1) := dc_96 (by decide +kernel)
theorem dX12_firstOf_47 : decode cX12_firstOf 47 = .ok (.iload 4, 2) := dc_21 4 (by decide +kernel)
theorem dX12_firstOf_49 : decode cX12_firstOf 49 = .ok (.iadd, 1) := dc_96 (by decide +kernel)
theorem dX12_firstOf_50 : decode cX12_firstOf 50 = .ok (.iaload, 1) := dc_46 (by decide +kernel)
theorem dX12_firstOf_51 : decode cX12_firstOf 51 = .ok (.iload_n 1, 1) := dc_27 (by decide +kernel)
theorem dX12_firstOf_52 : decode cX12_firstOf 52 = .ok (.if_icmp .ne 67, 3) := dc_160 0 67 67 (by decide +kernel)
theorem dX12_firstOf_119 : decode cX12_firstOf 119 = .ok (.iinc 4 1, 3) := dc_132 4 1 1 (by decide +kernel)
theorem dX12_firstOf_122 : decode cX12_firstOf 122 = .ok (.goto (-107), 3) := dc_167 255 149 (-107) (by decide +kernel)
theorem dX12_firstOf_55 : decode cX12_firstOf 55 = .ok (.aload_n 0, 1) := dc_42 (by decide +kernel)
theorem dX12_firstOf_56 : decode cX12_firstOf 56 = .ok (.iload_n 3, 1) := dc_29 (by decide +kernel)
theorem dX12_firstOf_57 : decode cX12_firstOf 57 = .ok (.putfield 132, 3) := dc_181 0 132 (by decide +kernel)
theorem dX12_firstOf_60 : decode cX12_firstOf 60 = .ok (.aload_n 0, 1) := dc_42 (by decide +kernel)
theorem dX12_firstOf_61 : decode cX12_firstOf 61 = .ok (.aload_n 0, 1) := dc_42 (by decide +kernel)
theorem dX12_firstOf_62 : decode cX12_firstOf 62 = .ok (.getfield 7, 3) := dc_180 0 7 (by decide +kernel)
theorem dX12_firstOf_65 : decode cX12_firstOf 65 = .ok (.sipush 24900, 3) := dc_17 97 68 24900 (by decide +kernel)
theorem dX12_firstOf_68 : decode cX12_firstOf 68 = .ok (.bipush 8, 2) := dc_16 8 8 (by decide +kernel)
theorem dX12_firstOf_70 : decode cX12_firstOf 70 = .ok (.iload_n 3, 1) := dc_29 (by decide +kernel)
theorem dX12_firstOf_71 : decode cX12_firstOf 71 = .ok (.imul, 1) := dc_104 (by decide +kernel)
theorem dX12_firstOf_72 : decode cX12_firstOf 72 = .ok (.iadd, 1) := dc_96 (by decide +kernel)
theorem dX12_firstOf_73 : decode cX12_firstOf 73 = .ok (.iload 4, 2) := dc_21 4 (by decide +kernel)
theorem dX12_firstOf_75 : decode cX12_firstOf 75 = .ok (.iadd, 1) := dc_96 (by decide +kernel)
theorem dX12_firstOf_76 : decode cX12_firstOf 76 = .ok (.iaload, 1) := dc_46 (by decide +kernel)
theorem dX12_firstOf_77 : decode cX12_firstOf 77 = .ok (.putfield 129, 3) := dc_181 0 129 (by decide +kernel)
theorem dX12_firstOf_80 : decode cX12_firstOf 80 = .ok (.aload_n 0, 1) := dc_42 (by decide +kernel)
theorem dX12_firstOf_81 : decode cX12_firstOf 81 = .ok (.iconst 0, 1) := dc_3 (by decide +kernel)
theorem dX12_firstOf_82 : decode cX12_firstOf 82 = .ok (.putfield 186, 3) := dc_181 0 186 (by decide +kernel)
theorem dX12_firstOf_85 : decode cX12_firstOf 85 = .ok (.aload_n 0, 1) := dc_42 (by decide +kernel)
theorem dX12_firstOf_86 : decode cX12_firstOf 86 = .ok (.iconst 0, 1) := dc_3 (by decide +kernel)
theorem dX12_firstOf_87 : decode cX12_firstOf 87 = .ok (.putfield 135, 3) := dc_181 0 135 (by decide +kernel)
theorem dX12_firstOf_90 : decode cX12_firstOf 90 = .ok (.aload_n 0, 1) := dc_42 (by decide +kernel)
theorem dX12_firstOf_91 : decode cX12_firstOf 91 = .ok (.iload_n 2, 1) := dc_28 (by decide +kernel)
theorem dX12_firstOf_92 : decode cX12_firstOf 92 = .ok (.putfield 180, 3) := dc_181 0 180 (by decide +kernel)
theorem dX12_firstOf_95 : decode cX12_firstOf 95 = .ok (.aload_n 0, 1) := dc_42 (by decide +kernel)
theorem dX12_firstOf_96 : decode cX12_firstOf 96 = .ok (.invokevirtual 192, 3) := dc_182 0 192 (by decide +kernel)
theorem dX12_firstOf_99 : decode cX12_firstOf 99 = .ok (.ifCond .eq 20, 3) := dc_153 0 20 20 (by decide +kernel)
theorem dX12_firstOf_102 : decode cX12_firstOf 102 = .ok (.aload_n 0, 1) := dc_42 (by decide +kernel)
theorem dX12_firstOf_103 : decode cX12_firstOf 103 = .ok (.getfield 7, 3) := dc_180 0 7 (by decide +kernel)
theorem dX12_firstOf_106 : decode cX12_firstOf 106 = .ok (.sipush 24810, 3) := dc_17 96 234 24810 (by decide +kernel)
theorem dX12_firstOf_109 : decode cX12_firstOf 109 = .ok (.bipush 8, 2) := dc_16 8 8 (by decide +kernel)
theorem dX12_firstOf_111 : decode cX12_firstOf 111 = .ok (.iload_n 3, 1) := dc_29 (by decide +kernel)
theorem dX12_firstOf_112 : decode cX12_firstOf 112 = .ok (.imul, 1) := dc_104 (by decide +kernel)
theorem dX12_firstOf_113 : decode cX12_firstOf 113 = .ok (.iadd, 1) := dc_96 (by decide +kernel)
theorem dX12_firstOf_114 : decode cX12_firstOf 114 = .ok (.iload 4, 2) := dc_21 4 (by decide +kernel)
theorem dX12_firstOf_116 : decode cX12_firstOf 116 = .ok (.iadd, 1) := dc_96 (by decide +kernel)
theorem dX12_firstOf_117 : decode cX12_firstOf 117 = .ok (.iaload, 1) := dc_46 (by decide +kernel)
theorem dX12_firstOf_118 : decode cX12_firstOf 118 = .ok (.ireturn, 1) := dc_172 (by decide +kernel)
abbrev R_X12_firstOf : Room := { frames := 131, cells := 0, slots := 0, locals := 5582 }
set_option maxRecDepth 100000 in
set_option maxHeartbeats 4000000 in
theorem s_X12_firstOf {l : Launch} {n0 : Nat} {D : va_G} {cA : Nat → ClassId} {M : gM} (a : Int) (r_a : -2147483648 ≤ a ∧ a ≤ 2147483647) (b : Int) (r_b : 0 ≤ b ∧ b ≤ 15) {sz : Nat} (hsz : 206 ≤ sz) (I : gI sz M) (C : gC sz M) (W : gW 191 M) (hp : b < M 191 1)  : Met l yX12_firstOf (gWsOf yX12_firstOf cX12_firstOf 5 (Option.some Jvm.ClassFile.FieldType.int)) R_X12_firstOf (gPc n0 D cA [gA n0 190, gJ a, gJ b] M sz) (gQi n0 D cA sz (fun z M1 => (-60 ≤ z ∧ z ≤ 9999) ∧ gI sz M1 ∧ gC sz M1 ∧ gFr 2475884173747944913318707200 M M1)) 0 0 (fun q => n0 ≤ q) := by
  refine gMetI [gA n0 190, gJ a, gJ b] (by decide) (Nat.le_of_ble_eq_true rfl) ⟨rfl, rfl⟩ ?_
  intro p e s m args below meth cd Q X hq
  have X : gCx p s m args meth cd n0 D cA "ParishUnionModel" cX12_firstOf 5 := X
  show G p l e R_X12_firstOf s m args below meth cd n0 D cA 5 Q 0 0 M sz 0 [(0, gA n0 190), (1, gJ a), (2, gJ b)] []
  obtain ⟨v1, hv1, rv1⟩ := gRd I (by decide) (gsz hsz (by decide)) (rs_PERS (k := 1) (by omega)).1
  refine g_aload_n (n := 1) X 0 dX12_firstOf_0 rfl rfl rfl ?_
  refine g_iload_n (n := 2) X 1 dX12_firstOf_1 rfl rfl rfl ?_
  refine g_aload_n (n := 3) X 0 dX12_firstOf_2 rfl rfl rfl ?_
  refine gg_12_1 (n := 6) (z := 191) X (by decide) (gsz hsz (by decide)) lay_190 kw_6_27 dX12_firstOf_3 rfl (rf_190_1 I (gsz hsz (by decide))) (by decide) ?_
  refine g_iconst (n := 7) X dX12_firstOf_6 rfl ?_
  obtain ⟨v2, hv2, rv2⟩ := gRd I (by decide) (gsz hsz (by decide)) (rs_NOW (k := 0) (by omega)).1
  refine g_iald2 (n := 8) (v := v2) X (by decide) (gsz hsz (by decide)) lay_191 (by omega) (by omega) (by decide) dX12_firstOf_7 rfl hv2 ?_
  refine g_callVi (n := 11) (As := [gJ a, gJ v2]) (rest := []) (cs1 := 0) (ss1 := 0) X (s_X12_actOf a (by omega) v2 (by omega) hsz I C ) okX12_actOf kw_6_197 ⟨kw_6_199, kw_0_50⟩ ⟨rfl, rfl⟩ ⟨Nat.le_of_ble_eq_true rfl, Nat.le_of_ble_eq_true rfl⟩ rfl (by decide) (gsz hsz (by decide)) lay_190 rfl rfl (Nat.le_of_ble_eq_true rfl) ⟨Nat.le_of_ble_eq_true rfl, Nat.le_of_ble_eq_true rfl⟩ rfl rfl dX12_firstOf_8 rfl (fun v3 M4 P5 => ?_)
  obtain ⟨rfl, rv3⟩ := P5
  refine g_istore_n (n := 12) (L' := [(3, gJ v3), (0, gA n0 190), (1, gJ a), (2, gJ b)]) X dX12_firstOf_11 rfl (by decide) rfl rfl ?_
  refine g_iconst (n := 13) X dX12_firstOf_12 rfl ?_
  refine g_istore (n := 15) (L' := [(4, gJ 0), (3, gJ v3), (0, gA n0 190), (1, gJ a), (2, gJ b)]) X dX12_firstOf_13 (by decide) rfl rfl ?_
  have j8 : ∀ (N119 : Nat) (v6 : Int) (M7 : gM) , (0 ≤ v6 ∧ v6 ≤ 8) → gI sz M7 → gC sz M7 → gFr 2475884173747944913318707200 M M7 → (8 - v6).toNat < N119 → G p l e R_X12_firstOf s m args below meth cd n0 D cA 5 Q 0 0 M7 sz 15 [(0, gA n0 190), (1, gJ a), (2, gJ b), (3, gJ v3), (4, gJ v6)] [] := by
    intro N119; induction N119 with
    | zero => intro v6 M7 rv6 IM7 CM7 FM7 hm121; exfalso; omega
    | succ N119 ih120 =>
      intro v6 M7 rv6 IM7 CM7 FM7 hm121
      refine g_iload_n (n := 16) X 3 dX12_firstOf_15 rfl rfl rfl ?_
      refine g_iconst (n := 17) X dX12_firstOf_16 rfl ?_
      refine g_icmp_eq (n := 20) (tgt := 125) X dX12_firstOf_17 (by decide) (by omega) (by omega) rfl (fun c122 => ?_) (fun c122 => ?_)
      · refine g_iconst (n := 126) X dX12_firstOf_125 rfl ?_
        exact hq _ _ _ _ dX12_firstOf_126 ⟨by omega, IM7, CM7, (gFr.c gFr.rf FM7 rfl)⟩
      · refine g_iload (n := 22) X 4 dX12_firstOf_20 rfl rfl ?_
        refine g_aload_n (n := 23) X 0 dX12_firstOf_22 rfl rfl rfl ?_
        refine gg_12_1 (n := 26) (z := 191) X (by decide) (gsz hsz (by decide)) lay_190 kw_6_27 dX12_firstOf_23 rfl (rf_190_1 IM7 (gsz hsz (by decide))) (by decide) ?_
        refine g_sipush (n := 29) X dX12_firstOf_26 (by decide +kernel) rfl ?_
        refine g_iload_n (n := 30) X 3 dX12_firstOf_29 rfl rfl rfl ?_
        refine g_iadd (n := 31) (z := v3 + 24700) X dX12_firstOf_30 (by omega) rfl ?_
        obtain ⟨v123, hv123, rv123⟩ := gRd IM7 (by decide) (gsz hsz (by decide)) (rs_LCOUNT (k := v3 + 24700) (by omega)).1
        refine g_iald2 (n := 32) (v := v123) X (by decide) (gsz hsz (by decide)) lay_191 (by omega) (by omega) (by decide) dX12_firstOf_31 rfl hv123 ?_
        refine g_icmp_ge (n := 35) (tgt := 125) X dX12_firstOf_32 (by decide) (by omega) (by omega) rfl (fun c124 => ?_) (fun c124 => ?_)
        · refine g_iconst (n := 126) X dX12_firstOf_125 rfl ?_
          exact hq _ _ _ _ dX12_firstOf_126 ⟨by omega, IM7, CM7, (gFr.c gFr.rf FM7 rfl)⟩
        · refine g_aload_n (n := 36) X 0 dX12_firstOf_35 rfl rfl rfl ?_
          refine gg_12_1 (n := 39) (z := 191) X (by decide) (gsz hsz (by decide)) lay_190 kw_6_27 dX12_firstOf_36 rfl (rf_190_1 IM7 (gsz hsz (by decide))) (by decide) ?_
          refine g_sipush (n := 42) X dX12_firstOf_39 (by decide +kernel) rfl ?_
          refine g_bipush (n := 44) X dX12_firstOf_42 (by decide +kernel) rfl ?_
          refine g_iload_n (n := 45) X 3 dX12_firstOf_44 rfl rfl rfl ?_
          refine g_imul (n := 46) (z := 8 * v3) X dX12_firstOf_45 rfl rfl ?_
          refine g_iadd (n := 47) (z := 24720 + (8 * v3)) X dX12_firstOf_46 rfl rfl ?_
          refine g_iload (n := 49) X 4 dX12_firstOf_47 rfl rfl ?_
          refine g_iadd (n := 50) (z := (24720 + (8 * v3)) + v6) X dX12_firstOf_49 rfl rfl ?_
          obtain ⟨v125, hv125, rv125⟩ := gRd IM7 (by decide) (gsz hsz (by decide)) (rs_LWORD (k := (24720 + (8 * v3)) + v6) (by omega)).1
          refine g_iald2 (n := 51) (v := v125) X (by decide) (gsz hsz (by decide)) lay_191 (by omega) (by omega) (by decide) dX12_firstOf_50 rfl hv125 ?_
          refine g_iload_n (n := 52) X 1 dX12_firstOf_51 rfl rfl rfl ?_
          refine g_icmp_ne (n := 55) (tgt := 119) X dX12_firstOf_52 (by decide) (by omega) (by omega) rfl (fun c126 => ?_) (fun c126 => ?_)
          · refine g_iinc (n := 122) (w := v6 + 1) (L' := [(4, gJ (v6 + 1)), (0, gA n0 190), (1, gJ a), (2, gJ b), (3, gJ v3)]) X 4 dX12_firstOf_119 rfl rfl (by decide) rfl rfl ?_
            refine g_goto (tgt := 15) X dX12_firstOf_122 (by decide) ?_
            refine G.sub (L' := [(0, gA n0 190), (1, gJ a), (2, gJ b), (3, gJ v3), (4, gJ (v6 + 1))]) [1, 2, 3, 4, 0] rfl ?_
            exact ih120 (v6 + 1) M7 (by omega) IM7 CM7 (gFr.c gFr.rf FM7 rfl) (by omega)
          · refine g_aload_n (n := 56) X 0 dX12_firstOf_55 rfl rfl rfl ?_
            refine g_iload_n (n := 57) X 3 dX12_firstOf_56 rfl rfl rfl ?_
            refine gp_12_11 (n := 60) X (by decide) (gsz hsz (by decide)) lay_190 kw_6_37 dX12_firstOf_57 rfl ?_
            refine G.nm (fun M127 e128 => ?_)
            have IM127 : gI sz M127 := gI.set IM7 rc_190_11.1 (by omega) e128
            have CM127 : gC sz M127 := gC.set CM7 rc_190_11.2.1 e128
            refine g_aload_n (n := 61) X 0 dX12_firstOf_60 rfl rfl rfl ?_
            refine g_aload_n (n := 62) X 0 dX12_firstOf_61 rfl rfl rfl ?_
            refine gg_12_1 (n := 65) (z := 191) X (by decide) (gsz hsz (by decide)) lay_190 kw_6_27 dX12_firstOf_62 rfl (rf_190_1 IM127 (gsz hsz (by decide))) (by decide) ?_
            refine g_sipush (n := 68) X dX12_firstOf_65 (by decide +kernel) rfl ?_
            refine g_bipush (n := 70) X dX12_firstOf_68 (by decide +kernel) rfl ?_
            refine g_iload_n (n := 71) X 3 dX12_firstOf_70 rfl rfl rfl ?_
            refine g_imul (n := 72) (z := 8 * v3) X dX12_firstOf_71 rfl rfl ?_
            refine g_iadd (n := 73) (z := 24900 + (8 * v3)) X dX12_firstOf_72 rfl rfl ?_
            refine g_iload (n := 75) X 4 dX12_firstOf_73 rfl rfl ?_
            refine g_iadd (n := 76) (z := (24900 + (8 * v3)) + v6) X dX12_firstOf_75 rfl rfl ?_
            obtain ⟨v129, hv129, rv129⟩ := gRd IM127 (by decide) (gsz hsz (by decide)) (rs_LSPOT (k := (24900 + (8 * v3)) + v6) (by omega)).1
            refine g_iald2 (n := 77) (v := v129) X (by decide) (gsz hsz (by decide)) lay_191 (by omega) (by omega) (by decide) dX12_firstOf_76 rfl hv129 ?_
            refine gp_12_12 (n := 80) X (by decide) (gsz hsz (by decide)) lay_190 kw_6_38 dX12_firstOf_77 rfl ?_
            refine G.nm (fun M130 e131 => ?_)
            have IM130 : gI sz M130 := gI.set IM127 rc_190_12.1 (by omega) e131
            have CM130 : gC sz M130 := gC.set CM127 rc_190_12.2.1 e131
            refine g_aload_n (n := 81) X 0 dX12_firstOf_80 rfl rfl rfl ?_
            refine g_iconst (n := 82) X dX12_firstOf_81 rfl ?_
            refine gp_12_14 (n := 85) X (by decide) (gsz hsz (by decide)) lay_190 kw_6_40 dX12_firstOf_82 rfl ?_
            refine G.nm (fun M132 e133 => ?_)
            have IM132 : gI sz M132 := gI.set IM130 rc_190_14.1 (by omega) e133
            have CM132 : gC sz M132 := gC.set CM130 rc_190_14.2.1 e133
            refine g_aload_n (n := 86) X 0 dX12_firstOf_85 rfl rfl rfl ?_
            refine g_iconst (n := 87) X dX12_firstOf_86 rfl ?_
            refine gp_12_13 (n := 90) X (by decide) (gsz hsz (by decide)) lay_190 kw_6_39 (by omega) dX12_firstOf_87 rfl ?_
            refine G.nm (fun M134 e135 => ?_)
            have IM134 : gI sz M134 := gI.set IM132 rc_190_13.1 (by omega) e135
            have CM134 : gC sz M134 := gC.set CM132 rc_190_13.2.1 e135
            refine g_aload_n (n := 91) X 0 dX12_firstOf_90 rfl rfl rfl ?_
            refine g_iload_n (n := 92) X 2 dX12_firstOf_91 rfl rfl rfl ?_
            refine gp_12_15 (n := 95) X (by decide) (gsz hsz (by decide)) lay_190 kw_6_41 dX12_firstOf_92 rfl ?_
            refine G.nm (fun M136 e137 => ?_)
            have IM136 : gI sz M136 := gI.set IM134 rc_190_15.1 (by omega) e137
            have CM136 : gC sz M136 := gC.set CM134 rc_190_15.2.1 e137
            refine g_aload_n (n := 96) X 0 dX12_firstOf_95 rfl rfl rfl ?_
            have tM136_12 : M136 190 12 = v129 := ((congrFun (congrFun e137 _) _).trans ((gset_ne (by omega)).trans ((congrFun (congrFun e135 _) _).trans ((gset_ne (by omega)).trans ((congrFun (congrFun e133 _) _).trans ((gset_ne (by omega)).trans ((congrFun (congrFun e131 _) _).trans (gset_eq _ _ _ _))))))))
            have tM136_14 : M136 190 14 = 0 := ((congrFun (congrFun e137 _) _).trans ((gset_ne (by omega)).trans ((congrFun (congrFun e135 _) _).trans ((gset_ne (by omega)).trans ((congrFun (congrFun e133 _) _).trans (gset_eq _ _ _ _))))))
            refine g_callVi (n := 99) (As := []) (rest := []) (cs1 := 0) (ss1 := 0) X (s_X12_some hsz M136 IM136 CM136 (gW.fr (S := 2475884173747944913318707200) W ⟨sz, hsz, I⟩ (gFr.s (gFr.s (gFr.s (gFr.s (gFr.s (gFr.c gFr.rf FM7 rfl) e128 rc_190_11.2.2 rfl) e131 rc_190_12.2.2 rfl) e133 rc_190_14.2.2 rfl) e135 rc_190_13.2.2 rfl) e137 rc_190_15.2.2 rfl) rfl) (by have q1 := ((congrFun (congrFun e137 _) _).trans (gset_eq _ _ _ _)); have q2 := ((congrFun (congrFun e137 _) _).trans ((gset_ne (by omega)).trans ((congrFun (congrFun e135 _) _).trans ((gset_ne (by omega)).trans ((congrFun (congrFun e133 _) _).trans ((gset_ne (by omega)).trans ((congrFun (congrFun e131 _) _).trans ((gset_ne (by omega)).trans ((congrFun (congrFun e128 _) _).trans ((gset_ne (by omega)).trans ((gFr.at FM7 (rs_PERS (k := 1) (by omega)).2.2 rfl).trans hv1))))))))))); omega) (by have q14 := ((congrFun (congrFun e137 _) _).trans ((gset_ne (by omega)).trans ((congrFun (congrFun e135 _) _).trans ((gset_ne (by omega)).trans ((congrFun (congrFun e133 _) _).trans (gset_eq _ _ _ _)))))); omega) (by have q14 := ((congrFun (congrFun e137 _) _).trans ((gset_ne (by omega)).trans ((congrFun (congrFun e135 _) _).trans ((gset_ne (by omega)).trans ((congrFun (congrFun e133 _) _).trans (gset_eq _ _ _ _)))))); omega)) okX12_some kw_7_46 ⟨kw_7_48, kw_0_63⟩ ⟨rfl, rfl⟩ ⟨Nat.le_of_ble_eq_true rfl, Nat.le_of_ble_eq_true rfl⟩ rfl (by decide) (gsz hsz (by decide)) lay_190 rfl rfl (Nat.le_of_ble_eq_true rfl) ⟨Nat.le_of_ble_eq_true rfl, Nat.le_of_ble_eq_true rfl⟩ rfl rfl dX12_firstOf_96 rfl (fun v138 M139 P140 => ?_)
            obtain ⟨rv138, IM139, CM139, FM139, xM139⟩ := P140
            obtain ⟨v141, hv141, rv141⟩ := gRd IM139 (by decide) (gsz hsz (by decide)) rc_190_12.1
            refine g_if_eq (n := 102) (tgt := 119) X dX12_firstOf_99 (by decide) (by omega) rfl (fun c142 => ?_) (fun c142 => ?_)
            · refine g_iinc (n := 122) (w := v6 + 1) (L' := [(4, gJ (v6 + 1)), (0, gA n0 190), (1, gJ a), (2, gJ b), (3, gJ v3)]) X 4 dX12_firstOf_119 rfl rfl (by decide) rfl rfl ?_
              refine g_goto (tgt := 15) X dX12_firstOf_122 (by decide) ?_
              refine G.sub (L' := [(0, gA n0 190), (1, gJ a), (2, gJ b), (3, gJ v3), (4, gJ (v6 + 1))]) [1, 2, 3, 4, 0] rfl ?_
              exact ih120 (v6 + 1) M139 (by omega) IM139 CM139 (gFr.c (gFr.s (gFr.s (gFr.s (gFr.s (gFr.s (gFr.c gFr.rf FM7 rfl) e128 rc_190_11.2.2 rfl) e131 rc_190_12.2.2 rfl) e133 rc_190_14.2.2 rfl) e135 rc_190_13.2.2 rfl) e137 rc_190_15.2.2 rfl) FM139 rfl) (by omega)
            · refine g_aload_n (n := 103) X 0 dX12_firstOf_102 rfl rfl rfl ?_
              refine gg_12_1 (n := 106) (z := 191) X (by decide) (gsz hsz (by decide)) lay_190 kw_6_27 dX12_firstOf_103 rfl (rf_190_1 IM139 (gsz hsz (by decide))) (by decide) ?_
              refine g_sipush (n := 109) X dX12_firstOf_106 (by decide +kernel) rfl ?_
              refine g_bipush (n := 111) X dX12_firstOf_109 (by decide +kernel) rfl ?_
              refine g_iload_n (n := 112) X 3 dX12_firstOf_111 rfl rfl rfl ?_
              refine g_imul (n := 113) (z := 8 * v3) X dX12_firstOf_112 rfl rfl ?_
              refine g_iadd (n := 114) (z := 24810 + (8 * v3)) X dX12_firstOf_113 rfl rfl ?_
              refine g_iload (n := 116) X 4 dX12_firstOf_114 rfl rfl ?_
              refine g_iadd (n := 117) (z := (24810 + (8 * v3)) + v6) X dX12_firstOf_116 rfl rfl ?_
              obtain ⟨v143, hv143, rv143⟩ := gRd IM139 (by decide) (gsz hsz (by decide)) (rs_LVALUE (k := (24810 + (8 * v3)) + v6) (by omega)).1
              refine g_iald2 (n := 118) (v := v143) X (by decide) (gsz hsz (by decide)) lay_191 (by omega) (by omega) (by decide) dX12_firstOf_117 rfl hv143 ?_
              exact hq _ _ _ _ dX12_firstOf_118 ⟨by omega, IM139, CM139, (gFr.c (gFr.s (gFr.s (gFr.s (gFr.s (gFr.s (gFr.c gFr.rf FM7 rfl) e128 rc_190_11.2.2 rfl) e131 rc_190_12.2.2 rfl) e133 rc_190_14.2.2 rfl) e135 rc_190_13.2.2 rfl) e137 rc_190_15.2.2 rfl) FM139 rfl)⟩
  refine G.sub (L' := [(0, gA n0 190), (1, gJ a), (2, gJ b), (3, gJ v3), (4, gJ 0)]) [2, 3, 4, 1, 0] rfl ?_
  exact j8 _ 0 M (by omega) I C gFr.rf (Nat.lt_succ_self _)
theorem dX12_givenTo_0 : decode cX12_givenTo 0 = .ok (.aload_n 0, 1) := dc_42 (by decide +kernel)
theorem dX12_givenTo_1 : decode cX12_givenTo 1 = .ok (.bipush 8, 2) := dc_16 8 8 (by decide +kernel)
theorem dX12_givenTo_3 : decode cX12_givenTo 3 = .ok (.iload_n 1, 1) := dc_27 (by decide +kernel)
theorem dX12_givenTo_4 : decode cX12_givenTo 4 = .ok (.invokevirtual 239, 3) := dc_182 0 239 (by decide +kernel)
theorem kw_7_86 : (Jvm.Cond.methodLink "ParishUnionModel" (239 : Nat) ({ cls := "ParishUnionModel", name := "firstOf", desc := "(II)I" } : Jvm.MethodName)) ∈ gT := gT_of (tb_7 _ (List.mem_of_getElem? (i := 86) rfl)) rfl
theorem kw_7_89 : (Jvm.Cond.code ({ cls := "ParishUnionModel", name := "firstOf", desc := "(II)I" } : Jvm.MethodName) prog_14_method_56_code (5 : Nat) (Option.some Jvm.ClassFile.FieldType.int)) ∈ gT := gT_of (tb_7 _ (List.mem_of_getElem? (i := 89) rfl)) rfl
theorem okX12_firstOf : gQok yX12_firstOf cX12_firstOf 5 (Option.some Jvm.ClassFile.FieldType.int) 2 := ⟨kw_7_89, kw_1_13, by decide +kernel, by decide +kernel, by decide +kernel⟩
theorem kw_7_88 : (Jvm.Cond.instanceMethod ({ cls := "ParishUnionModel", name := "firstOf", desc := "(II)I" } : Jvm.MethodName)) ∈ gT := gT_of (tb_7 _ (List.mem_of_getElem? (i := 88) rfl)) rfl
theorem kw_0_71 : (Jvm.Cond.selects "ParishUnionModel" ({ cls := "ParishUnionModel", name := "firstOf", desc := "(II)I" } : Jvm.MethodName) ({ cls := "ParishUnionModel", name := "firstOf", desc := "(II)I" } : Jvm.MethodName)) ∈ gT := gT_of (tb_0 _ (List.mem_of_getElem? (i := 71) rfl)) rfl
theorem dX12_givenTo_7 : decode cX12_givenTo 7 = .ok (.istore_n 2, 1) := dc_61 (by decide +kernel)
theorem dX12_givenTo_8 : decode cX12_givenTo 8 = .ok (.iload_n 2, 1) := dc_28 (by decide +kernel)
theorem dX12_givenTo_9 : decode cX12_givenTo 9 = .ok (.iconst (-1), 1) := dc_2 (by decide +kernel)
theorem dX12_givenTo_10 : decode cX12_givenTo 10 = .ok (.if_icmp .ne 7, 3) := dc_160 0 7 7 (by decide +kernel)
theorem dX12_givenTo_17 : decode cX12_givenTo 17 = .ok (.iload_n 2, 1) := dc_28 (by decide +kernel)
theorem dX12_givenTo_18 : decode cX12_givenTo 18 = .ok (.ireturn, 1) := dc_172 (by decide +kernel)
theorem dX12_givenTo_13 : decode cX12_givenTo 13 = .ok (.iconst 0, 1) := dc_3 (by decide +kernel)
theorem dX12_givenTo_14 : decode cX12_givenTo 14 = .ok (.goto 4, 3) := dc_167 0 4 4 (by decide +kernel)
abbrev R_X12_givenTo : Room := { frames := 132, cells := 0, slots := 0, locals := 5606 }
set_option maxRecDepth 100000 in
set_option maxHeartbeats 4000000 in
theorem s_X12_givenTo {l : Launch} {n0 : Nat} {D : va_G} {cA : Nat → ClassId} {M : gM} (a : Int) (r_a : 0 ≤ a ∧ a ≤ 15) {sz : Nat} (hsz : 206 ≤ sz) (I : gI sz M) (C : gC sz M) (W : gW 191 M) (hp : a < M 191 1)  : Met l yX12_givenTo (gWsOf yX12_givenTo cX12_givenTo 3 (Option.some Jvm.ClassFile.FieldType.int)) R_X12_givenTo (gPc n0 D cA [gA n0 190, gJ a] M sz) (gQi n0 D cA sz (fun z M1 => (-60 ≤ z ∧ z ≤ 9999) ∧ gI sz M1 ∧ gC sz M1 ∧ gFr 2475884173747944913318707200 M M1)) 0 0 (fun q => n0 ≤ q) := by
  refine gMetI [gA n0 190, gJ a] (by decide) (Nat.le_of_ble_eq_true rfl) ⟨rfl, rfl⟩ ?_
  intro p e s m args below meth cd Q X hq
  have X : gCx p s m args meth cd n0 D cA "ParishUnionModel" cX12_givenTo 3 := X
  show G p l e R_X12_givenTo s m args below meth cd n0 D cA 3 Q 0 0 M sz 0 [(0, gA n0 190), (1, gJ a)] []
  obtain ⟨v1, hv1, rv1⟩ := gRd I (by decide) (gsz hsz (by decide)) (rs_PERS (k := 1) (by omega)).1
  refine g_aload_n (n := 1) X 0 dX12_givenTo_0 rfl rfl rfl ?_
  refine g_bipush (n := 3) X dX12_givenTo_1 (by decide +kernel) rfl ?_
  refine g_iload_n (n := 4) X 1 dX12_givenTo_3 rfl rfl rfl ?_
  refine g_callVi (n := 7) (As := [gJ 8, gJ a]) (rest := []) (cs1 := 0) (ss1 := 0) X (s_X12_firstOf 8 (by omega) a (by omega) hsz I C W (by have q2 := hv1; omega)) okX12_firstOf kw_7_86 ⟨kw_7_88, kw_0_71⟩ ⟨rfl, rfl⟩ ⟨Nat.le_of_ble_eq_true rfl, Nat.le_of_ble_eq_true rfl⟩ rfl (by decide) (gsz hsz (by decide)) lay_190 rfl rfl (Nat.le_of_ble_eq_true rfl) ⟨Nat.le_of_ble_eq_true rfl, Nat.le_of_ble_eq_true rfl⟩ rfl rfl dX12_givenTo_4 rfl (fun v2 M3 P4 => ?_)
  obtain ⟨rv2, IM3, CM3, FM3⟩ := P4
  refine g_istore_n (n := 8) (L' := [(2, gJ v2), (0, gA n0 190), (1, gJ a)]) X dX12_givenTo_7 rfl (by decide) rfl rfl ?_
  refine g_iload_n (n := 9) X 0 dX12_givenTo_8 rfl rfl rfl ?_
  refine g_iconst (n := 10) X dX12_givenTo_9 rfl ?_
  refine g_icmp_ne (n := 13) (tgt := 17) X dX12_givenTo_10 (by decide) (by omega) (by omega) rfl (fun c5 => ?_) (fun c5 => ?_)
  · refine g_iload_n (n := 18) X 0 dX12_givenTo_17 rfl rfl rfl ?_
    exact hq _ _ _ _ dX12_givenTo_18 ⟨by omega, IM3, CM3, (gFr.c gFr.rf FM3 rfl)⟩
  · refine g_iconst (n := 14) X dX12_givenTo_13 rfl ?_
    refine g_goto (tgt := 18) X dX12_givenTo_14 (by decide) ?_
    exact hq _ _ _ _ dX12_givenTo_18 ⟨by omega, IM3, CM3, (gFr.c gFr.rf FM3 rfl)⟩
theorem dX12_wardFor_0 : decode cX12_wardFor 0 = .ok (.aload_n 0, 1) := dc_42 (by decide +kernel)
theorem dX12_wardFor_1 : decode cX12_wardFor 1 = .ok (.bipush 9, 2) := dc_16 9 9 (by decide +kernel)
theorem dX12_wardFor_3 : decode cX12_wardFor 3 = .ok (.aload_n 0, 1) := dc_42 (by decide +kernel)
theorem dX12_wardFor_4 : decode cX12_wardFor 4 = .ok (.getfield 7, 3) := dc_180 0 7 (by decide +kernel)
theorem dX12_wardFor_7 : decode cX12_wardFor 7 = .ok (.iconst 0, 1) := dc_3 (by decide +kernel)
theorem dX12_wardFor_8 : decode cX12_wardFor 8 = .ok (.iaload, 1) := dc_46 (by decide +kernel)
theorem dX12_wardFor_9 : decode cX12_wardFor 9 = .ok (.invokevirtual 230, 3) := dc_182 0 230 (by decide +kernel)
theorem dX12_wardFor_12 : decode cX12_wardFor 12 = .ok (.iconst (-1), 1) := dc_2 (by decide +kernel)
theorem dX12_wardFor_13 : decode cX12_wardFor 13 = .ok (.if_icmp .ne 5, 3) := dc_160 0 5 5 (by decide +kernel)
theorem dX12_wardFor_18 : decode cX12_wardFor 18 = .ok (.aload_n 0, 1) := dc_42 (by decide +kernel)
theorem dX12_wardFor_19 : decode cX12_wardFor 19 = .ok (.bipush 9, 2) := dc_16 9 9 (by decide +kernel)
theorem dX12_wardFor_21 : decode cX12_wardFor 21 = .ok (.iload_n 1, 1) := dc_27 (by decide +kernel)
theorem dX12_wardFor_22 : decode cX12_wardFor 22 = .ok (.invokevirtual 239, 3) := dc_182 0 239 (by decide +kernel)
theorem dX12_wardFor_25 : decode cX12_wardFor 25 = .ok (.ireturn, 1) := dc_172 (by decide +kernel)
theorem dX12_wardFor_16 : decode cX12_wardFor 16 = .ok (.iconst 0, 1) := dc_3 (by decide +kernel)
theorem dX12_wardFor_17 : decode cX12_wardFor 17 = .ok (.ireturn, 1) := dc_172 (by decide +kernel)
abbrev R_X12_wardFor : Room := { frames := 132, cells := 0, slots := 0, locals := 5606 }
set_option maxRecDepth 100000 in
set_option maxHeartbeats 4000000 in
theorem s_X12_wardFor {l : Launch} {n0 : Nat} {D : va_G} {cA : Nat → ClassId} {M : gM} (a : Int) (r_a : 0 ≤ a ∧ a ≤ 15) {sz : Nat} (hsz : 206 ≤ sz) (I : gI sz M) (C : gC sz M) (W : gW 191 M) (hp : a < M 191 1)  : Met l yX12_wardFor (gWsOf yX12_wardFor cX12_wardFor 2 (Option.some Jvm.ClassFile.FieldType.int)) R_X12_wardFor (gPc n0 D cA [gA n0 190, gJ a] M sz) (gQi n0 D cA sz (fun z M1 => (-60 ≤ z ∧ z ≤ 9999) ∧ gI sz M1 ∧ gC sz M1 ∧ gFr 2475884173747944913318707200 M M1)) 0 0 (fun q => n0 ≤ q) := by
  refine gMetI [gA n0 190, gJ a] (by decide) (Nat.le_of_ble_eq_true rfl) ⟨rfl, rfl⟩ ?_
  intro p e s m args below meth cd Q X hq
  have X : gCx p s m args meth cd n0 D cA "ParishUnionModel" cX12_wardFor 2 := X
  show G p l e R_X12_wardFor s m args below meth cd n0 D cA 2 Q 0 0 M sz 0 [(0, gA n0 190), (1, gJ a)] []
  obtain ⟨v1, hv1, rv1⟩ := gRd I (by decide) (gsz hsz (by decide)) (rs_PERS (k := 1) (by omega)).1
  refine g_aload_n (n := 1) X 0 dX12_wardFor_0 rfl rfl rfl ?_
  refine g_bipush (n := 3) X dX12_wardFor_1 (by decide +kernel) rfl ?_
  refine g_aload_n (n := 4) X 0 dX12_wardFor_3 rfl rfl rfl ?_
  refine gg_12_1 (n := 7) (z := 191) X (by decide) (gsz hsz (by decide)) lay_190 kw_6_27 dX12_wardFor_4 rfl (rf_190_1 I (gsz hsz (by decide))) (by decide) ?_
  refine g_iconst (n := 8) X dX12_wardFor_7 rfl ?_
  obtain ⟨v2, hv2, rv2⟩ := gRd I (by decide) (gsz hsz (by decide)) (rs_NOW (k := 0) (by omega)).1
  refine g_iald2 (n := 9) (v := v2) X (by decide) (gsz hsz (by decide)) lay_191 (by omega) (by omega) (by decide) dX12_wardFor_8 rfl hv2 ?_
  refine g_callVi (n := 12) (As := [gJ 9, gJ v2]) (rest := []) (cs1 := 0) (ss1 := 0) X (s_X12_actOf 9 (by omega) v2 (by omega) hsz I C ) okX12_actOf kw_6_197 ⟨kw_6_199, kw_0_50⟩ ⟨rfl, rfl⟩ ⟨Nat.le_of_ble_eq_true rfl, Nat.le_of_ble_eq_true rfl⟩ rfl (by decide) (gsz hsz (by decide)) lay_190 rfl rfl (Nat.le_of_ble_eq_true rfl) ⟨Nat.le_of_ble_eq_true rfl, Nat.le_of_ble_eq_true rfl⟩ rfl rfl dX12_wardFor_9 rfl (fun v3 M4 P5 => ?_)
  obtain ⟨rfl, rv3⟩ := P5
  refine g_iconst (n := 13) X dX12_wardFor_12 rfl ?_
  refine g_icmp_ne (n := 16) (tgt := 18) X dX12_wardFor_13 (by decide) (by omega) (by omega) rfl (fun c6 => ?_) (fun c6 => ?_)
  · refine g_aload_n (n := 19) X 0 dX12_wardFor_18 rfl rfl rfl ?_
    refine g_bipush (n := 21) X dX12_wardFor_19 (by decide +kernel) rfl ?_
    refine g_iload_n (n := 22) X 1 dX12_wardFor_21 rfl rfl rfl ?_
    refine g_callVi (n := 25) (As := [gJ 9, gJ a]) (rest := []) (cs1 := 0) (ss1 := 0) X (s_X12_firstOf 9 (by omega) a (by omega) hsz I C W (by have q2 := hv1; omega)) okX12_firstOf kw_7_86 ⟨kw_7_88, kw_0_71⟩ ⟨rfl, rfl⟩ ⟨Nat.le_of_ble_eq_true rfl, Nat.le_of_ble_eq_true rfl⟩ rfl (by decide) (gsz hsz (by decide)) lay_190 rfl rfl (Nat.le_of_ble_eq_true rfl) ⟨Nat.le_of_ble_eq_true rfl, Nat.le_of_ble_eq_true rfl⟩ rfl rfl dX12_wardFor_22 rfl (fun v7 M8 P9 => ?_)
    obtain ⟨rv7, IM8, CM8, FM8⟩ := P9
    exact hq _ _ _ _ dX12_wardFor_25 ⟨by omega, IM8, CM8, (gFr.c gFr.rf FM8 rfl)⟩
  · refine g_iconst (n := 17) X dX12_wardFor_16 rfl ?_
    exact hq _ _ _ _ dX12_wardFor_17 ⟨by omega, I, C, gFr.rf⟩
theorem dX12_offer_0 : decode cX12_offer 0 = .ok (.aload_n 0, 1) := dc_42 (by decide +kernel)
theorem dX12_offer_1 : decode cX12_offer 1 = .ok (.iload_n 1, 1) := dc_27 (by decide +kernel)
theorem dX12_offer_2 : decode cX12_offer 2 = .ok (.invokevirtual 76, 3) := dc_182 0 76 (by decide +kernel)
theorem dX12_offer_5 : decode cX12_offer 5 = .ok (.ifCond .eq 12, 3) := dc_153 0 12 12 (by decide +kernel)
theorem dX12_offer_17 : decode cX12_offer 17 = .ok (.iconst (-1), 1) := dc_2 (by decide +kernel)
theorem dX12_offer_18 : decode cX12_offer 18 = .ok (.ireturn, 1) := dc_172 (by decide +kernel)
theorem dX12_offer_8 : decode cX12_offer 8 = .ok (.iload_n 2, 1) := dc_28 (by decide +kernel)
theorem dX12_offer_9 : decode cX12_offer 9 = .ok (.iconst 0, 1) := dc_3 (by decide +kernel)
theorem dX12_offer_10 : decode cX12_offer 10 = .ok (.iconst 1, 1) := dc_4 (by decide +kernel)
theorem dX12_offer_11 : decode cX12_offer 11 = .ok (.invokestatic 64, 3) := dc_184 0 64 (by decide +kernel)
theorem dX12_offer_14 : decode cX12_offer 14 = .ok (.ifCond .ne 5, 3) := dc_154 0 5 5 (by decide +kernel)
theorem dX12_offer_19 : decode cX12_offer 19 = .ok (.iload_n 2, 1) := dc_28 (by decide +kernel)
theorem dX12_offer_20 : decode cX12_offer 20 = .ok (.iconst 1, 1) := dc_4 (by decide +kernel)
theorem dX12_offer_21 : decode cX12_offer 21 = .ok (.if_icmp .ne 11, 3) := dc_160 0 11 11 (by decide +kernel)
theorem dX12_offer_32 : decode cX12_offer 32 = .ok (.iconst 0, 1) := dc_3 (by decide +kernel)
theorem dX12_offer_33 : decode cX12_offer 33 = .ok (.istore_n 3, 1) := dc_62 (by decide +kernel)
theorem dX12_offer_34 : decode cX12_offer 34 = .ok (.iload_n 2, 1) := dc_28 (by decide +kernel)
theorem dX12_offer_35 : decode cX12_offer 35 = .ok (.ifCond .ne 11, 3) := dc_154 0 11 11 (by decide +kernel)
theorem dX12_offer_38 : decode cX12_offer 38 = .ok (.aload_n 0, 1) := dc_42 (by decide +kernel)
theorem dX12_offer_39 : decode cX12_offer 39 = .ok (.iload_n 1, 1) := dc_27 (by decide +kernel)
theorem dX12_offer_40 : decode cX12_offer 40 = .ok (.invokevirtual 245, 3) := dc_182 0 245 (by decide +kernel)
theorem kw_7_90 : (Jvm.Cond.methodLink "ParishUnionModel" (245 : Nat) ({ cls := "ParishUnionModel", name := "givenTo", desc := "(I)I" } : Jvm.MethodName)) ∈ gT := gT_of (tb_7 _ (List.mem_of_getElem? (i := 90) rfl)) rfl
theorem kw_7_93 : (Jvm.Cond.code ({ cls := "ParishUnionModel", name := "givenTo", desc := "(I)I" } : Jvm.MethodName) prog_14_method_57_code (3 : Nat) (Option.some Jvm.ClassFile.FieldType.int)) ∈ gT := gT_of (tb_7 _ (List.mem_of_getElem? (i := 93) rfl)) rfl
theorem okX12_givenTo : gQok yX12_givenTo cX12_givenTo 3 (Option.some Jvm.ClassFile.FieldType.int) 1 := ⟨kw_7_93, kw_1_13, by decide +kernel, by decide +kernel, by decide +kernel⟩
theorem kw_7_92 : (Jvm.Cond.instanceMethod ({ cls := "ParishUnionModel", name := "givenTo", desc := "(I)I" } : Jvm.MethodName)) ∈ gT := gT_of (tb_7 _ (List.mem_of_getElem? (i := 92) rfl)) rfl
theorem kw_0_72 : (Jvm.Cond.selects "ParishUnionModel" ({ cls := "ParishUnionModel", name := "givenTo", desc := "(I)I" } : Jvm.MethodName) ({ cls := "ParishUnionModel", name := "givenTo", desc := "(I)I" } : Jvm.MethodName)) ∈ gT := gT_of (tb_0 _ (List.mem_of_getElem? (i := 72) rfl)) rfl
theorem dX12_offer_43 : decode cX12_offer 43 = .ok (.goto 14, 3) := dc_167 0 14 14 (by decide +kernel)
theorem dX12_offer_57 : decode cX12_offer 57 = .ok (.ireturn, 1) := dc_172 (by decide +kernel)
theorem dX12_offer_24 : decode cX12_offer 24 = .ok (.aload_n 0, 1) := dc_42 (by decide +kernel)
theorem dX12_offer_25 : decode cX12_offer 25 = .ok (.iload_n 1, 1) := dc_27 (by decide +kernel)
theorem dX12_offer_26 : decode cX12_offer 26 = .ok (.invokevirtual 242, 3) := dc_182 0 242 (by decide +kernel)
theorem kw_7_82 : (Jvm.Cond.methodLink "ParishUnionModel" (242 : Nat) ({ cls := "ParishUnionModel", name := "wardFor", desc := "(I)I" } : Jvm.MethodName)) ∈ gT := gT_of (tb_7 _ (List.mem_of_getElem? (i := 82) rfl)) rfl
theorem kw_7_85 : (Jvm.Cond.code ({ cls := "ParishUnionModel", name := "wardFor", desc := "(I)I" } : Jvm.MethodName) prog_14_method_58_code (2 : Nat) (Option.some Jvm.ClassFile.FieldType.int)) ∈ gT := gT_of (tb_7 _ (List.mem_of_getElem? (i := 85) rfl)) rfl
theorem okX12_wardFor : gQok yX12_wardFor cX12_wardFor 2 (Option.some Jvm.ClassFile.FieldType.int) 1 := ⟨kw_7_85, kw_1_13, by decide +kernel, by decide +kernel, by decide +kernel⟩
theorem kw_7_84 : (Jvm.Cond.instanceMethod ({ cls := "ParishUnionModel", name := "wardFor", desc := "(I)I" } : Jvm.MethodName)) ∈ gT := gT_of (tb_7 _ (List.mem_of_getElem? (i := 84) rfl)) rfl
theorem kw_0_70 : (Jvm.Cond.selects "ParishUnionModel" ({ cls := "ParishUnionModel", name := "wardFor", desc := "(I)I" } : Jvm.MethodName) ({ cls := "ParishUnionModel", name := "wardFor", desc := "(I)I" } : Jvm.MethodName)) ∈ gT := gT_of (tb_0 _ (List.mem_of_getElem? (i := 70) rfl)) rfl
theorem dX12_offer_29 : decode cX12_offer 29 = .ok (.goto 4, 3) := dc_167 0 4 4 (by decide +kernel)
theorem dX12_offer_46 : decode cX12_offer 46 = .ok (.iload_n 3, 1) := dc_29 (by decide +kernel)
theorem dX12_offer_47 : decode cX12_offer 47 = .ok (.iconst (-1), 1) := dc_2 (by decide +kernel)
theorem dX12_offer_48 : decode cX12_offer 48 = .ok (.if_icmp .ne 8, 3) := dc_160 0 8 8 (by decide +kernel)
theorem dX12_offer_56 : decode cX12_offer 56 = .ok (.iload_n 3, 1) := dc_29 (by decide +kernel)
theorem dX12_offer_51 : decode cX12_offer 51 = .ok (.bipush (-5), 2) := dc_16 251 (-5) (by decide +kernel)
theorem dX12_offer_53 : decode cX12_offer 53 = .ok (.goto 4, 3) := dc_167 0 4 4 (by decide +kernel)
abbrev R_X12_offer : Room := { frames := 133, cells := 0, slots := 0, locals := 5628 }
set_option maxRecDepth 100000 in
set_option maxHeartbeats 4000000 in
theorem s_X12_offer {l : Launch} {n0 : Nat} {D : va_G} {cA : Nat → ClassId} {M : gM} (a : Int) (r_a : -2147483648 ≤ a ∧ a ≤ 2147483647) (b : Int) (r_b : -2147483648 ≤ b ∧ b ≤ 2147483647) {sz : Nat} (hsz : 206 ≤ sz) (I : gI sz M) (C : gC sz M) (W : gW 191 M)  : Met l yX12_offer (gWsOf yX12_offer cX12_offer 4 (Option.some Jvm.ClassFile.FieldType.int)) R_X12_offer (gPc n0 D cA [gA n0 190, gJ a, gJ b] M sz) (gQi n0 D cA sz (fun z M1 => (-60 ≤ z ∧ z ≤ 9999) ∧ gI sz M1 ∧ gC sz M1 ∧ gFr 2475884173747944913318707200 M M1)) 0 0 (fun q => n0 ≤ q) := by
  refine gMetI [gA n0 190, gJ a, gJ b] (by decide) (Nat.le_of_ble_eq_true rfl) ⟨rfl, rfl⟩ ?_
  intro p e s m args below meth cd Q X hq
  have X : gCx p s m args meth cd n0 D cA "ParishUnionModel" cX12_offer 4 := X
  show G p l e R_X12_offer s m args below meth cd n0 D cA 4 Q 0 0 M sz 0 [(0, gA n0 190), (1, gJ a), (2, gJ b)] []
  obtain ⟨v1, hv1, rv1⟩ := gRd I (by decide) (gsz hsz (by decide)) (rs_PERS (k := 1) (by omega)).1
  refine g_aload_n (n := 1) X 0 dX12_offer_0 rfl rfl rfl ?_
  refine g_iload_n (n := 2) X 1 dX12_offer_1 rfl rfl rfl ?_
  refine g_callVi (n := 5) (As := [gJ a]) (rest := []) (cs1 := 0) (ss1 := 0) X (s_X12_isPerson a (by omega) hsz I C ) okX12_isPerson kw_6_125 ⟨kw_6_127, kw_0_40⟩ ⟨rfl, rfl⟩ ⟨Nat.le_of_ble_eq_true rfl, Nat.le_of_ble_eq_true rfl⟩ rfl (by decide) (gsz hsz (by decide)) lay_190 rfl rfl (Nat.le_of_ble_eq_true rfl) ⟨Nat.le_of_ble_eq_true rfl, Nat.le_of_ble_eq_true rfl⟩ rfl rfl dX12_offer_2 rfl (fun v2 M3 P4 => ?_)
  obtain ⟨rfl, rv2, xv2⟩ := P4
  refine g_if_eq (n := 8) (tgt := 17) X dX12_offer_5 (by decide) (by omega) rfl (fun c5 => ?_) (fun c5 => ?_)
  · refine g_iconst (n := 18) X dX12_offer_17 rfl ?_
    exact hq _ _ _ _ dX12_offer_18 ⟨by omega, I, C, gFr.rf⟩
  · refine g_iload_n (n := 9) X 2 dX12_offer_8 rfl rfl rfl ?_
    refine g_iconst (n := 10) X dX12_offer_9 rfl ?_
    refine g_iconst (n := 11) X dX12_offer_10 rfl ?_
    refine g_callSi (n := 14) (As := [gJ b, gJ 0, gJ 1]) (rest := []) (cs1 := 0) (ss1 := 0) X (s_X12_in b (by omega) 0 (by omega) 1 (by omega) hsz I C ) okX12_in kw_6_106 kw_6_107 ⟨rfl, rfl⟩ ⟨Nat.le_of_ble_eq_true rfl, Nat.le_of_ble_eq_true rfl⟩ rfl rfl (Nat.le_of_ble_eq_true rfl) ⟨Nat.le_of_ble_eq_true rfl, Nat.le_of_ble_eq_true rfl⟩ rfl rfl dX12_offer_11 rfl (fun v6 M7 P8 => ?_)
    obtain ⟨rfl, rv6, xv6⟩ := P8
    refine g_if_ne (n := 17) (tgt := 19) X dX12_offer_14 (by decide) (by omega) rfl (fun c9 => ?_) (fun c9 => ?_)
    · refine g_iload_n (n := 20) X 2 dX12_offer_19 rfl rfl rfl ?_
      refine g_iconst (n := 21) X dX12_offer_20 rfl ?_
      refine g_icmp_ne (n := 24) (tgt := 32) X dX12_offer_21 (by decide) (by omega) (by omega) rfl (fun c10 => ?_) (fun c10 => ?_)
      · refine g_iconst (n := 33) X dX12_offer_32 rfl ?_
        refine g_istore_n (n := 34) (L' := [(3, gJ 0), (0, gA n0 190), (1, gJ a), (2, gJ b)]) X dX12_offer_33 rfl (by decide) rfl rfl ?_
        refine g_iload_n (n := 35) X 3 dX12_offer_34 rfl rfl rfl ?_
        refine g_if_ne (n := 38) (tgt := 46) X dX12_offer_35 (by decide) (by omega) rfl (fun c11 => by exfalso; omega) (fun c11 => ?_)
        refine g_aload_n (n := 39) X 1 dX12_offer_38 rfl rfl rfl ?_
        refine g_iload_n (n := 40) X 2 dX12_offer_39 rfl rfl rfl ?_
        refine g_callVi (n := 43) (As := [gJ a]) (rest := []) (cs1 := 0) (ss1 := 0) X (s_X12_givenTo a (by omega) hsz I C W (by have q2 := hv1; omega)) okX12_givenTo kw_7_90 ⟨kw_7_92, kw_0_72⟩ ⟨rfl, rfl⟩ ⟨Nat.le_of_ble_eq_true rfl, Nat.le_of_ble_eq_true rfl⟩ rfl (by decide) (gsz hsz (by decide)) lay_190 rfl rfl (Nat.le_of_ble_eq_true rfl) ⟨Nat.le_of_ble_eq_true rfl, Nat.le_of_ble_eq_true rfl⟩ rfl rfl dX12_offer_40 rfl (fun v12 M13 P14 => ?_)
        obtain ⟨rv12, IM13, CM13, FM13⟩ := P14
        refine g_goto (tgt := 57) X dX12_offer_43 (by decide) ?_
        exact hq _ _ _ _ dX12_offer_57 ⟨by omega, IM13, CM13, (gFr.c gFr.rf FM13 rfl)⟩
      · refine g_aload_n (n := 25) X 0 dX12_offer_24 rfl rfl rfl ?_
        refine g_iload_n (n := 26) X 1 dX12_offer_25 rfl rfl rfl ?_
        refine g_callVi (n := 29) (As := [gJ a]) (rest := []) (cs1 := 0) (ss1 := 0) X (s_X12_wardFor a (by omega) hsz I C W (by have q2 := hv1; omega)) okX12_wardFor kw_7_82 ⟨kw_7_84, kw_0_70⟩ ⟨rfl, rfl⟩ ⟨Nat.le_of_ble_eq_true rfl, Nat.le_of_ble_eq_true rfl⟩ rfl (by decide) (gsz hsz (by decide)) lay_190 rfl rfl (Nat.le_of_ble_eq_true rfl) ⟨Nat.le_of_ble_eq_true rfl, Nat.le_of_ble_eq_true rfl⟩ rfl rfl dX12_offer_26 rfl (fun v15 M16 P17 => ?_)
        obtain ⟨rv15, IM16, CM16, FM16⟩ := P17
        refine g_goto (tgt := 33) X dX12_offer_29 (by decide) ?_
        refine g_istore_n (n := 34) (L' := [(3, gJ v15), (0, gA n0 190), (1, gJ a), (2, gJ b)]) X dX12_offer_33 rfl (by decide) rfl rfl ?_
        refine g_iload_n (n := 35) X 3 dX12_offer_34 rfl rfl rfl ?_
        refine g_if_ne (n := 38) (tgt := 46) X dX12_offer_35 (by decide) (by omega) rfl (fun c18 => ?_) (fun c18 => by exfalso; omega)
        refine g_iload_n (n := 47) X 0 dX12_offer_46 rfl rfl rfl ?_
        refine g_iconst (n := 48) X dX12_offer_47 rfl ?_
        refine g_icmp_ne (n := 51) (tgt := 56) X dX12_offer_48 (by decide) (by omega) (by omega) rfl (fun c19 => ?_) (fun c19 => ?_)
        · refine g_iload_n (n := 57) X 0 dX12_offer_56 rfl rfl rfl ?_
          exact hq _ _ _ _ dX12_offer_57 ⟨by omega, IM16, CM16, (gFr.c gFr.rf FM16 rfl)⟩
        · refine g_bipush (n := 53) X dX12_offer_51 (by decide +kernel) rfl ?_
          refine g_goto (tgt := 57) X dX12_offer_53 (by decide) ?_
          exact hq _ _ _ _ dX12_offer_57 ⟨by omega, IM16, CM16, (gFr.c gFr.rf FM16 rfl)⟩
    · refine g_iconst (n := 18) X dX12_offer_17 rfl ?_
      exact hq _ _ _ _ dX12_offer_18 ⟨by omega, I, C, gFr.rf⟩
