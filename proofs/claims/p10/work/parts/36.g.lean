theorem dX12_plan_0 : decode cX12_plan 0 = .ok (.iload_n 1, 1) := dc_27 (by decide +kernel)
theorem dX12_plan_1 : decode cX12_plan 1 = .ok (.iconst 0, 1) := dc_3 (by decide +kernel)
theorem dX12_plan_2 : decode cX12_plan 2 = .ok (.iconst 1, 1) := dc_4 (by decide +kernel)
theorem dX12_plan_3 : decode cX12_plan 3 = .ok (.invokestatic 64, 3) := dc_184 0 64 (by decide +kernel)
theorem dX12_plan_6 : decode cX12_plan 6 = .ok (.ifCond .ne 5, 3) := dc_154 0 5 5 (by decide +kernel)
theorem dX12_plan_11 : decode cX12_plan 11 = .ok (.iconst 0, 1) := dc_3 (by decide +kernel)
theorem dX12_plan_12 : decode cX12_plan 12 = .ok (.istore_n 2, 1) := dc_61 (by decide +kernel)
theorem dX12_plan_13 : decode cX12_plan 13 = .ok (.iconst 0, 1) := dc_3 (by decide +kernel)
theorem dX12_plan_14 : decode cX12_plan 14 = .ok (.istore_n 3, 1) := dc_62 (by decide +kernel)
theorem dX12_plan_15 : decode cX12_plan 15 = .ok (.iconst 0, 1) := dc_3 (by decide +kernel)
theorem dX12_plan_16 : decode cX12_plan 16 = .ok (.istore 4, 2) := dc_54 4 (by decide +kernel)
theorem dX12_plan_18 : decode cX12_plan 18 = .ok (.iload 4, 2) := dc_21 4 (by decide +kernel)
theorem dX12_plan_20 : decode cX12_plan 20 = .ok (.iconst 3, 1) := dc_6 (by decide +kernel)
theorem dX12_plan_21 : decode cX12_plan 21 = .ok (.if_icmp .ge 65, 3) := dc_162 0 65 65 (by decide +kernel)
theorem dX12_plan_24 : decode cX12_plan 24 = .ok (.iload_n 2, 1) := dc_28 (by decide +kernel)
theorem dX12_plan_25 : decode cX12_plan 25 = .ok (.aload_n 0, 1) := dc_42 (by decide +kernel)
theorem dX12_plan_26 : decode cX12_plan 26 = .ok (.getfield 7, 3) := dc_180 0 7 (by decide +kernel)
theorem dX12_plan_29 : decode cX12_plan 29 = .ok (.sipush 2580, 3) := dc_17 10 20 2580 (by decide +kernel)
theorem dX12_plan_32 : decode cX12_plan 32 = .ok (.iload 4, 2) := dc_21 4 (by decide +kernel)
theorem dX12_plan_34 : decode cX12_plan 34 = .ok (.iadd, 1) := dc_96 (by decide +kernel)
theorem dX12_plan_35 : decode cX12_plan 35 = .ok (.iaload, 1) := dc_46 (by decide +kernel)
theorem dX12_plan_36 : decode cX12_plan 36 = .ok (.ifCond .le 7, 3) := dc_158 0 7 7 (by decide +kernel)
theorem dX12_plan_43 : decode cX12_plan 43 = .ok (.iconst 0, 1) := dc_3 (by decide +kernel)
theorem dX12_plan_44 : decode cX12_plan 44 = .ok (.iadd, 1) := dc_96 (by decide +kernel)
theorem dX12_plan_45 : decode cX12_plan 45 = .ok (.istore_n 2, 1) := dc_61 (by decide +kernel)
theorem dX12_plan_46 : decode cX12_plan 46 = .ok (.iload_n 3, 1) := dc_29 (by decide +kernel)
theorem dX12_plan_47 : decode cX12_plan 47 = .ok (.ifCond .ne 27, 3) := dc_154 0 27 27 (by decide +kernel)
theorem dX12_plan_74 : decode cX12_plan 74 = .ok (.iconst 1, 1) := dc_4 (by decide +kernel)
theorem dX12_plan_75 : decode cX12_plan 75 = .ok (.goto 4, 3) := dc_167 0 4 4 (by decide +kernel)
theorem dX12_plan_79 : decode cX12_plan 79 = .ok (.istore_n 3, 1) := dc_62 (by decide +kernel)
theorem dX12_plan_80 : decode cX12_plan 80 = .ok (.iinc 4 1, 3) := dc_132 4 1 1 (by decide +kernel)
theorem dX12_plan_83 : decode cX12_plan 83 = .ok (.goto (-65), 3) := dc_167 255 191 (-65) (by decide +kernel)
theorem dX12_plan_50 : decode cX12_plan 50 = .ok (.aload_n 0, 1) := dc_42 (by decide +kernel)
theorem dX12_plan_51 : decode cX12_plan 51 = .ok (.getfield 7, 3) := dc_180 0 7 (by decide +kernel)
theorem dX12_plan_54 : decode cX12_plan 54 = .ok (.iconst 0, 1) := dc_3 (by decide +kernel)
theorem dX12_plan_55 : decode cX12_plan 55 = .ok (.iaload, 1) := dc_46 (by decide +kernel)
theorem dX12_plan_56 : decode cX12_plan 56 = .ok (.aload_n 0, 1) := dc_42 (by decide +kernel)
theorem dX12_plan_57 : decode cX12_plan 57 = .ok (.getfield 7, 3) := dc_180 0 7 (by decide +kernel)
theorem dX12_plan_60 : decode cX12_plan 60 = .ok (.sipush 2580, 3) := dc_17 10 20 2580 (by decide +kernel)
theorem dX12_plan_63 : decode cX12_plan 63 = .ok (.iload 4, 2) := dc_21 4 (by decide +kernel)
theorem dX12_plan_65 : decode cX12_plan 65 = .ok (.iadd, 1) := dc_96 (by decide +kernel)
theorem dX12_plan_66 : decode cX12_plan 66 = .ok (.iaload, 1) := dc_46 (by decide +kernel)
theorem dX12_plan_67 : decode cX12_plan 67 = .ok (.iadd, 1) := dc_96 (by decide +kernel)
theorem dX12_plan_68 : decode cX12_plan 68 = .ok (.sipush 300, 3) := dc_17 1 44 300 (by decide +kernel)
theorem dX12_plan_71 : decode cX12_plan 71 = .ok (.if_icmp .le 7, 3) := dc_164 0 7 7 (by decide +kernel)
theorem dX12_plan_78 : decode cX12_plan 78 = .ok (.iconst 0, 1) := dc_3 (by decide +kernel)
theorem dX12_plan_39 : decode cX12_plan 39 = .ok (.iconst 1, 1) := dc_4 (by decide +kernel)
theorem dX12_plan_40 : decode cX12_plan 40 = .ok (.goto 4, 3) := dc_167 0 4 4 (by decide +kernel)
theorem dX12_plan_86 : decode cX12_plan 86 = .ok (.iload_n 2, 1) := dc_28 (by decide +kernel)
theorem dX12_plan_87 : decode cX12_plan 87 = .ok (.ifCond .eq 7, 3) := dc_153 0 7 7 (by decide +kernel)
theorem dX12_plan_94 : decode cX12_plan 94 = .ok (.bipush (-3), 2) := dc_16 253 (-3) (by decide +kernel)
theorem dX12_plan_96 : decode cX12_plan 96 = .ok (.ireturn, 1) := dc_172 (by decide +kernel)
theorem dX12_plan_90 : decode cX12_plan 90 = .ok (.iload_n 3, 1) := dc_29 (by decide +kernel)
theorem dX12_plan_91 : decode cX12_plan 91 = .ok (.ifCond .eq 6, 3) := dc_153 0 6 6 (by decide +kernel)
theorem dX12_plan_97 : decode cX12_plan 97 = .ok (.iconst (-1), 1) := dc_2 (by decide +kernel)
theorem dX12_plan_98 : decode cX12_plan 98 = .ok (.istore 4, 2) := dc_54 4 (by decide +kernel)
theorem dX12_plan_100 : decode cX12_plan 100 = .ok (.iconst 0, 1) := dc_3 (by decide +kernel)
theorem dX12_plan_101 : decode cX12_plan 101 = .ok (.istore 5, 2) := dc_54 5 (by decide +kernel)
theorem dX12_plan_103 : decode cX12_plan 103 = .ok (.iload 5, 2) := dc_21 5 (by decide +kernel)
theorem dX12_plan_105 : decode cX12_plan 105 = .ok (.iconst 1, 1) := dc_4 (by decide +kernel)
theorem dX12_plan_106 : decode cX12_plan 106 = .ok (.aload_n 0, 1) := dc_42 (by decide +kernel)
theorem dX12_plan_107 : decode cX12_plan 107 = .ok (.getfield 7, 3) := dc_180 0 7 (by decide +kernel)
theorem dX12_plan_110 : decode cX12_plan 110 = .ok (.bipush 7, 2) := dc_16 7 7 (by decide +kernel)
theorem dX12_plan_112 : decode cX12_plan 112 = .ok (.iaload, 1) := dc_46 (by decide +kernel)
theorem dX12_plan_113 : decode cX12_plan 113 = .ok (.ishl, 1) := dc_120 (by decide +kernel)
theorem dX12_plan_114 : decode cX12_plan 114 = .ok (.if_icmp .ge 131, 3) := dc_162 0 131 131 (by decide +kernel)
theorem dX12_plan_245 : decode cX12_plan 245 = .ok (.iload 4, 2) := dc_21 4 (by decide +kernel)
theorem dX12_plan_247 : decode cX12_plan 247 = .ok (.iconst (-1), 1) := dc_2 (by decide +kernel)
theorem dX12_plan_248 : decode cX12_plan 248 = .ok (.if_icmp .ne 8, 3) := dc_160 0 8 8 (by decide +kernel)
theorem dX12_plan_251 : decode cX12_plan 251 = .ok (.bipush (-5), 2) := dc_16 251 (-5) (by decide +kernel)
theorem dX12_plan_253 : decode cX12_plan 253 = .ok (.goto 18, 3) := dc_167 0 18 18 (by decide +kernel)
theorem dX12_plan_271 : decode cX12_plan 271 = .ok (.ireturn, 1) := dc_172 (by decide +kernel)
theorem dX12_plan_117 : decode cX12_plan 117 = .ok (.iload 4, 2) := dc_21 4 (by decide +kernel)
theorem dX12_plan_119 : decode cX12_plan 119 = .ok (.iconst (-1), 1) := dc_2 (by decide +kernel)
theorem dX12_plan_120 : decode cX12_plan 120 = .ok (.if_icmp .eq 46, 3) := dc_159 0 46 46 (by decide +kernel)
theorem dX12_plan_166 : decode cX12_plan 166 = .ok (.iconst 1, 1) := dc_4 (by decide +kernel)
theorem dX12_plan_167 : decode cX12_plan 167 = .ok (.goto 4, 3) := dc_167 0 4 4 (by decide +kernel)
theorem dX12_plan_171 : decode cX12_plan 171 = .ok (.istore 6, 2) := dc_54 6 (by decide +kernel)
theorem dX12_plan_173 : decode cX12_plan 173 = .ok (.iconst 0, 1) := dc_3 (by decide +kernel)
theorem dX12_plan_174 : decode cX12_plan 174 = .ok (.istore 7, 2) := dc_54 7 (by decide +kernel)
theorem dX12_plan_176 : decode cX12_plan 176 = .ok (.iload 7, 2) := dc_21 7 (by decide +kernel)
theorem dX12_plan_178 : decode cX12_plan 178 = .ok (.iconst 3, 1) := dc_6 (by decide +kernel)
theorem dX12_plan_179 : decode cX12_plan 179 = .ok (.if_icmp .ge 46, 3) := dc_162 0 46 46 (by decide +kernel)
theorem dX12_plan_182 : decode cX12_plan 182 = .ok (.iload 6, 2) := dc_21 6 (by decide +kernel)
theorem dX12_plan_184 : decode cX12_plan 184 = .ok (.ifCond .eq 41, 3) := dc_153 0 41 41 (by decide +kernel)
theorem dX12_plan_187 : decode cX12_plan 187 = .ok (.aload_n 0, 1) := dc_42 (by decide +kernel)
theorem dX12_plan_188 : decode cX12_plan 188 = .ok (.getfield 7, 3) := dc_180 0 7 (by decide +kernel)
theorem dX12_plan_191 : decode cX12_plan 191 = .ok (.sipush 2580, 3) := dc_17 10 20 2580 (by decide +kernel)
theorem dX12_plan_194 : decode cX12_plan 194 = .ok (.iload 7, 2) := dc_21 7 (by decide +kernel)
theorem dX12_plan_196 : decode cX12_plan 196 = .ok (.iadd, 1) := dc_96 (by decide +kernel)
theorem dX12_plan_197 : decode cX12_plan 197 = .ok (.iaload, 1) := dc_46 (by decide +kernel)
theorem dX12_plan_198 : decode cX12_plan 198 = .ok (.ifCond .eq 14, 3) := dc_153 0 14 14 (by decide +kernel)
theorem dX12_plan_212 : decode cX12_plan 212 = .ok (.iconst 1, 1) := dc_4 (by decide +kernel)
theorem dX12_plan_213 : decode cX12_plan 213 = .ok (.goto 4, 3) := dc_167 0 4 4 (by decide +kernel)
theorem dX12_plan_217 : decode cX12_plan 217 = .ok (.istore 6, 2) := dc_54 6 (by decide +kernel)
theorem dX12_plan_219 : decode cX12_plan 219 = .ok (.iinc 7 1, 3) := dc_132 7 1 1 (by decide +kernel)
theorem dX12_plan_222 : decode cX12_plan 222 = .ok (.goto (-46), 3) := dc_167 255 210 (-46) (by decide +kernel)
theorem dX12_plan_201 : decode cX12_plan 201 = .ok (.aload_n 0, 1) := dc_42 (by decide +kernel)
theorem dX12_plan_202 : decode cX12_plan 202 = .ok (.iload 5, 2) := dc_21 5 (by decide +kernel)
theorem dX12_plan_204 : decode cX12_plan 204 = .ok (.iload 7, 2) := dc_21 7 (by decide +kernel)
theorem dX12_plan_206 : decode cX12_plan 206 = .ok (.invokevirtual 309, 3) := dc_182 1 53 (by decide +kernel)
theorem kw_8_9 : (Jvm.Cond.methodLink "ParishUnionModel" (309 : Nat) ({ cls := "ParishUnionModel", name := "isWell", desc := "(II)Z" } : Jvm.MethodName)) ∈ gT := gT_of (tb_8 _ (List.mem_of_getElem? (i := 9) rfl)) rfl
theorem kw_8_12 : (Jvm.Cond.code ({ cls := "ParishUnionModel", name := "isWell", desc := "(II)Z" } : Jvm.MethodName) prog_14_method_100_code (6 : Nat) (Option.some Jvm.ClassFile.FieldType.boolean)) ∈ gT := gT_of (tb_8 _ (List.mem_of_getElem? (i := 12) rfl)) rfl
theorem okX12_isWell : gQok yX12_isWell cX12_isWell 6 (Option.some Jvm.ClassFile.FieldType.boolean) 2 := ⟨kw_8_12, kw_1_13, by decide +kernel, by decide +kernel, by decide +kernel⟩
theorem kw_8_11 : (Jvm.Cond.instanceMethod ({ cls := "ParishUnionModel", name := "isWell", desc := "(II)Z" } : Jvm.MethodName)) ∈ gT := gT_of (tb_8 _ (List.mem_of_getElem? (i := 11) rfl)) rfl
theorem kw_0_88 : (Jvm.Cond.selects "ParishUnionModel" ({ cls := "ParishUnionModel", name := "isWell", desc := "(II)Z" } : Jvm.MethodName) ({ cls := "ParishUnionModel", name := "isWell", desc := "(II)Z" } : Jvm.MethodName)) ∈ gT := gT_of (tb_0 _ (List.mem_of_getElem? (i := 88) rfl)) rfl
theorem dX12_plan_209 : decode cX12_plan 209 = .ok (.ifCond .eq 7, 3) := dc_153 0 7 7 (by decide +kernel)
theorem dX12_plan_216 : decode cX12_plan 216 = .ok (.iconst 0, 1) := dc_3 (by decide +kernel)
theorem dX12_plan_225 : decode cX12_plan 225 = .ok (.iload 6, 2) := dc_21 6 (by decide +kernel)
theorem dX12_plan_227 : decode cX12_plan 227 = .ok (.ifCond .eq 8, 3) := dc_153 0 8 8 (by decide +kernel)
theorem dX12_plan_235 : decode cX12_plan 235 = .ok (.iload 4, 2) := dc_21 4 (by decide +kernel)
theorem dX12_plan_237 : decode cX12_plan 237 = .ok (.istore 4, 2) := dc_54 4 (by decide +kernel)
theorem dX12_plan_239 : decode cX12_plan 239 = .ok (.iinc 5 1, 3) := dc_132 5 1 1 (by decide +kernel)
theorem dX12_plan_242 : decode cX12_plan 242 = .ok (.goto (-139), 3) := dc_167 255 117 (-139) (by decide +kernel)
theorem dX12_plan_230 : decode cX12_plan 230 = .ok (.iload 5, 2) := dc_21 5 (by decide +kernel)
theorem dX12_plan_232 : decode cX12_plan 232 = .ok (.goto 5, 3) := dc_167 0 5 5 (by decide +kernel)
theorem dX12_plan_256 : decode cX12_plan 256 = .ok (.iload_n 1, 1) := dc_27 (by decide +kernel)
theorem dX12_plan_257 : decode cX12_plan 257 = .ok (.ifCond .ne 8, 3) := dc_154 0 8 8 (by decide +kernel)
theorem dX12_plan_265 : decode cX12_plan 265 = .ok (.aload_n 0, 1) := dc_42 (by decide +kernel)
theorem dX12_plan_266 : decode cX12_plan 266 = .ok (.iload 4, 2) := dc_21 4 (by decide +kernel)
theorem dX12_plan_268 : decode cX12_plan 268 = .ok (.invokevirtual 306, 3) := dc_182 1 50 (by decide +kernel)
theorem kw_8_5 : (Jvm.Cond.methodLink "ParishUnionModel" (306 : Nat) ({ cls := "ParishUnionModel", name := "costOf6", desc := "(I)I" } : Jvm.MethodName)) ∈ gT := gT_of (tb_8 _ (List.mem_of_getElem? (i := 5) rfl)) rfl
theorem kw_8_8 : (Jvm.Cond.code ({ cls := "ParishUnionModel", name := "costOf6", desc := "(I)I" } : Jvm.MethodName) prog_14_method_98_code (4 : Nat) (Option.some Jvm.ClassFile.FieldType.int)) ∈ gT := gT_of (tb_8 _ (List.mem_of_getElem? (i := 8) rfl)) rfl
theorem okX12_costOf6 : gQok yX12_costOf6 cX12_costOf6 4 (Option.some Jvm.ClassFile.FieldType.int) 1 := ⟨kw_8_8, kw_1_13, by decide +kernel, by decide +kernel, by decide +kernel⟩
theorem kw_8_7 : (Jvm.Cond.instanceMethod ({ cls := "ParishUnionModel", name := "costOf6", desc := "(I)I" } : Jvm.MethodName)) ∈ gT := gT_of (tb_8 _ (List.mem_of_getElem? (i := 7) rfl)) rfl
theorem kw_0_87 : (Jvm.Cond.selects "ParishUnionModel" ({ cls := "ParishUnionModel", name := "costOf6", desc := "(I)I" } : Jvm.MethodName) ({ cls := "ParishUnionModel", name := "costOf6", desc := "(I)I" } : Jvm.MethodName)) ∈ gT := gT_of (tb_0 _ (List.mem_of_getElem? (i := 87) rfl)) rfl
theorem dX12_plan_260 : decode cX12_plan 260 = .ok (.iload 4, 2) := dc_21 4 (by decide +kernel)
theorem dX12_plan_262 : decode cX12_plan 262 = .ok (.goto 9, 3) := dc_167 0 9 9 (by decide +kernel)
theorem dX12_plan_123 : decode cX12_plan 123 = .ok (.aload_n 0, 1) := dc_42 (by decide +kernel)
theorem dX12_plan_124 : decode cX12_plan 124 = .ok (.iload 5, 2) := dc_21 5 (by decide +kernel)
theorem dX12_plan_126 : decode cX12_plan 126 = .ok (.invokevirtual 306, 3) := dc_182 1 50 (by decide +kernel)
theorem dX12_plan_129 : decode cX12_plan 129 = .ok (.aload_n 0, 1) := dc_42 (by decide +kernel)
theorem dX12_plan_130 : decode cX12_plan 130 = .ok (.iload 4, 2) := dc_21 4 (by decide +kernel)
theorem dX12_plan_132 : decode cX12_plan 132 = .ok (.invokevirtual 306, 3) := dc_182 1 50 (by decide +kernel)
theorem dX12_plan_135 : decode cX12_plan 135 = .ok (.if_icmp .lt 31, 3) := dc_161 0 31 31 (by decide +kernel)
theorem dX12_plan_138 : decode cX12_plan 138 = .ok (.aload_n 0, 1) := dc_42 (by decide +kernel)
theorem dX12_plan_139 : decode cX12_plan 139 = .ok (.iload 5, 2) := dc_21 5 (by decide +kernel)
theorem dX12_plan_141 : decode cX12_plan 141 = .ok (.invokevirtual 306, 3) := dc_182 1 50 (by decide +kernel)
theorem dX12_plan_144 : decode cX12_plan 144 = .ok (.aload_n 0, 1) := dc_42 (by decide +kernel)
theorem dX12_plan_145 : decode cX12_plan 145 = .ok (.iload 4, 2) := dc_21 4 (by decide +kernel)
theorem dX12_plan_147 : decode cX12_plan 147 = .ok (.invokevirtual 306, 3) := dc_182 1 50 (by decide +kernel)
theorem dX12_plan_150 : decode cX12_plan 150 = .ok (.if_icmp .ne 20, 3) := dc_160 0 20 20 (by decide +kernel)
theorem dX12_plan_170 : decode cX12_plan 170 = .ok (.iconst 0, 1) := dc_3 (by decide +kernel)
theorem dX12_plan_153 : decode cX12_plan 153 = .ok (.iload 5, 2) := dc_21 5 (by decide +kernel)
theorem dX12_plan_155 : decode cX12_plan 155 = .ok (.invokestatic 124, 3) := dc_184 0 124 (by decide +kernel)
theorem kw_6_224 : (Jvm.Cond.methodLink "ParishUnionModel" (124 : Nat) ({ cls := "ParishUnionModel", name := "many", desc := "(I)I" } : Jvm.MethodName)) ∈ gT := gT_of (tb_6 _ (List.mem_of_getElem? (i := 224) rfl)) rfl
theorem kw_6_226 : (Jvm.Cond.code ({ cls := "ParishUnionModel", name := "many", desc := "(I)I" } : Jvm.MethodName) prog_14_method_31_code (3 : Nat) (Option.some Jvm.ClassFile.FieldType.int)) ∈ gT := gT_of (tb_6 _ (List.mem_of_getElem? (i := 226) rfl)) rfl
theorem okX12_many : gQok yX12_many cX12_many 3 (Option.some Jvm.ClassFile.FieldType.int) 1 := ⟨kw_6_226, kw_1_13, by decide +kernel, by decide +kernel, by decide +kernel⟩
theorem kw_6_225 : (Jvm.Cond.static ({ cls := "ParishUnionModel", name := "many", desc := "(I)I" } : Jvm.MethodName)) ∈ gT := gT_of (tb_6 _ (List.mem_of_getElem? (i := 225) rfl)) rfl
theorem dX12_plan_158 : decode cX12_plan 158 = .ok (.iload 4, 2) := dc_21 4 (by decide +kernel)
theorem dX12_plan_160 : decode cX12_plan 160 = .ok (.invokestatic 124, 3) := dc_184 0 124 (by decide +kernel)
theorem dX12_plan_163 : decode cX12_plan 163 = .ok (.if_icmp .ge 7, 3) := dc_162 0 7 7 (by decide +kernel)
theorem dX12_plan_9 : decode cX12_plan 9 = .ok (.iconst (-1), 1) := dc_2 (by decide +kernel)
theorem dX12_plan_10 : decode cX12_plan 10 = .ok (.ireturn, 1) := dc_172 (by decide +kernel)
abbrev R_X12_plan : Room := { frames := 137, cells := 0, slots := 0, locals := 5720 }
set_option maxRecDepth 100000 in
set_option maxHeartbeats 4000000 in
theorem s_X12_plan {l : Launch} {n0 : Nat} {D : va_G} {cA : Nat → ClassId} {M : gM} (a : Int) (r_a : -2147483648 ≤ a ∧ a ≤ 2147483647) {sz : Nat} (hsz : 206 ≤ sz) (I : gI sz M) (C : gC sz M) (W : gW 191 M)  : Met l yX12_plan (gWsOf yX12_plan cX12_plan 8 (Option.some Jvm.ClassFile.FieldType.int)) R_X12_plan (gPc n0 D cA [gA n0 190, gJ a] M sz) (gQi n0 D cA sz (fun z M1 => (-2147483648 ≤ z ∧ z ≤ 2147483647) ∧ gI sz M1 ∧ gC sz M1 ∧ gFr 3559081726569396693205254144 M M1 ∧ (∀ b : Int, 0 ≤ b → b < 25301 → M1 191 b = M 191 b))) 0 0 (fun q => n0 ≤ q) := by
  refine gMetI [gA n0 190, gJ a] (by decide) (Nat.le_of_ble_eq_true rfl) ⟨rfl, rfl⟩ ?_
  intro p e s m args below meth cd Q X hq
  have X : gCx p s m args meth cd n0 D cA "ParishUnionModel" cX12_plan 8 := X
  show G p l e R_X12_plan s m args below meth cd n0 D cA 8 Q 0 0 M sz 0 [(0, gA n0 190), (1, gJ a)] []
  obtain ⟨v1, hv1, rv1⟩ := gRd I (by decide) (gsz hsz (by decide)) (rs_NOW (k := 0) (by omega)).1
  refine g_iload_n (n := 1) X 1 dX12_plan_0 rfl rfl rfl ?_
  refine g_iconst (n := 2) X dX12_plan_1 rfl ?_
  refine g_iconst (n := 3) X dX12_plan_2 rfl ?_
  refine g_callSi (n := 6) (As := [gJ a, gJ 0, gJ 1]) (rest := []) (cs1 := 0) (ss1 := 0) X (s_X12_in a (by omega) 0 (by omega) 1 (by omega) hsz I C ) okX12_in kw_6_106 kw_6_107 ⟨rfl, rfl⟩ ⟨Nat.le_of_ble_eq_true rfl, Nat.le_of_ble_eq_true rfl⟩ rfl rfl (Nat.le_of_ble_eq_true rfl) ⟨Nat.le_of_ble_eq_true rfl, Nat.le_of_ble_eq_true rfl⟩ rfl rfl dX12_plan_3 rfl (fun v2 M3 P4 => ?_)
  obtain ⟨rfl, rv2, xv2⟩ := P4
  refine g_if_ne (n := 9) (tgt := 11) X dX12_plan_6 (by decide) (by omega) rfl (fun c5 => ?_) (fun c5 => ?_)
  · refine g_iconst (n := 12) X dX12_plan_11 rfl ?_
    refine g_istore_n (n := 13) (L' := [(2, gJ 0), (0, gA n0 190), (1, gJ a)]) X dX12_plan_12 rfl (by decide) rfl rfl ?_
    refine g_iconst (n := 14) X dX12_plan_13 rfl ?_
    refine g_istore_n (n := 15) (L' := [(3, gJ 0), (2, gJ 0), (0, gA n0 190), (1, gJ a)]) X dX12_plan_14 rfl (by decide) rfl rfl ?_
    refine g_iconst (n := 16) X dX12_plan_15 rfl ?_
    refine g_istore (n := 18) (L' := [(4, gJ 0), (3, gJ 0), (2, gJ 0), (0, gA n0 190), (1, gJ a)]) X dX12_plan_16 (by decide) rfl rfl ?_
    have j10 : ∀ (N91426 : Nat) (v6 v7 v8 : Int) , (-2147483648 ≤ v6 ∧ v6 ≤ 2147483647) → (0 ≤ v7 ∧ v7 ≤ 1) → (0 ≤ v8 ∧ v8 ≤ 3) → (v7 = 1 ∨ ∀ q : Int, 0 ≤ q → q < v8 → M 191 0 + M 191 (q + 2580) ≤ 300) → (3 - v8).toNat < N91426 → G p l e R_X12_plan s m args below meth cd n0 D cA 8 Q 0 0 M sz 18 [(0, gA n0 190), (1, gJ a), (2, gJ v6), (3, gJ v7), (4, gJ v8)] [] := by
      intro N91426; induction N91426 with
      | zero => intro v6 v7 v8 rv6 rv7 rv8 hb hm91428; exfalso; omega
      | succ N91426 ih91427 =>
        intro v6 v7 v8 rv6 rv7 rv8 hb hm91428
        refine g_iload (n := 20) X 4 dX12_plan_18 rfl rfl ?_
        refine g_iconst (n := 21) X dX12_plan_20 rfl ?_
        refine g_icmp_ge (n := 24) (tgt := 86) X dX12_plan_21 (by decide) (by omega) (by omega) rfl (fun c91429 => ?_) (fun c91429 => ?_)
        · have hbeyond := hb
          refine g_iload_n (n := 87) X 2 dX12_plan_86 rfl rfl rfl ?_
          refine g_if_eq (n := 90) (tgt := 94) X dX12_plan_87 (by decide) (by omega) rfl (fun c91437 => ?_) (fun c91437 => ?_)
          · refine g_bipush (n := 96) X dX12_plan_94 (by decide +kernel) rfl ?_
            exact hq _ _ _ _ dX12_plan_96 ⟨by omega, I, C, gFr.rf, (fun b _ _ => rfl)⟩
          · refine g_iload_n (n := 91) X 3 dX12_plan_90 rfl rfl rfl ?_
            refine g_if_eq (n := 94) (tgt := 97) X dX12_plan_91 (by decide) (by omega) rfl (fun c91438 => ?_) (fun c91438 => ?_)
            · refine g_iconst (n := 98) X dX12_plan_97 rfl ?_
              refine g_istore (n := 100) (L' := [(4, gJ (-1)), (0, gA n0 190), (1, gJ a), (2, gJ v6), (3, gJ v7)]) X dX12_plan_98 (by decide) rfl rfl ?_
              refine g_iconst (n := 101) X dX12_plan_100 rfl ?_
              refine g_istore (n := 103) (L' := [(5, gJ 0), (4, gJ (-1)), (0, gA n0 190), (1, gJ a), (2, gJ v6), (3, gJ v7)]) X dX12_plan_101 (by decide) rfl rfl ?_
              have j91442 : ∀ (N96016 : Nat) (v91439 v91440 : Int) (M91441 : gM) , (-1 ≤ v91439 ∧ v91439 ≤ 2147483647) → (0 ≤ v91440 ∧ v91440 ≤ 2147483647) → gI sz M91441 → gC sz M91441 → gFr 3559081726569396693205254144 M M91441 → (∀ b : Int, 0 ≤ b → b < 25301 → M91441 191 b = M 191 b) → (2147483647 - v91440).toNat < N96016 → G p l e R_X12_plan s m args below meth cd n0 D cA 8 Q 0 0 M91441 sz 103 [(0, gA n0 190), (1, gJ a), (4, gJ v91439), (5, gJ v91440)] [] := by
                intro N96016; induction N96016 with
                | zero => intro v91439 v91440 M91441 rv91439 rv91440 IM91441 CM91441 FM91441 hE103 hm96018; exfalso; omega
                | succ N96016 ih96017 =>
                  intro v91439 v91440 M91441 rv91439 rv91440 IM91441 CM91441 FM91441 hE103 hm96018
                  refine g_iload (n := 105) X 3 dX12_plan_103 rfl rfl ?_
                  refine g_iconst (n := 106) X dX12_plan_105 rfl ?_
                  refine g_aload_n (n := 107) X 0 dX12_plan_106 rfl rfl rfl ?_
                  refine gg_12_1 (n := 110) (z := 191) X (by decide) (gsz hsz (by decide)) lay_190 kw_6_27 dX12_plan_107 rfl (rf_190_1 IM91441 (gsz hsz (by decide))) (by decide) ?_
                  refine g_bipush (n := 112) X dX12_plan_110 (by decide +kernel) rfl ?_
                  obtain ⟨v96019, hv96019, rv96019⟩ := gRd IM91441 (by decide) (gsz hsz (by decide)) (rs_NC (k := 7) (by omega)).1
                  refine g_iald2 (n := 113) (v := v96019) X (by decide) (gsz hsz (by decide)) lay_191 (by omega) (by omega) (by decide) dX12_plan_112 rfl hv96019 ?_
                  refine g_ishlA (n := 114) X dX12_plan_113 rfl (fun v96020 rv96020 xv96020 => ?_)
                  clear xv96020
                  refine g_icmp_ge (n := 117) (tgt := 245) X dX12_plan_114 (by decide) (by omega) (by omega) rfl (fun c96021 => ?_) (fun c96021 => ?_)
                  · refine g_iload (n := 247) X 2 dX12_plan_245 rfl rfl ?_
                    refine g_iconst (n := 248) X dX12_plan_247 rfl ?_
                    refine g_icmp_ne (n := 251) (tgt := 256) X dX12_plan_248 (by decide) (by omega) (by omega) rfl (fun c96022 => ?_) (fun c96022 => ?_)
                    · refine g_iload_n (n := 257) X 1 dX12_plan_256 rfl rfl rfl ?_
                      refine g_if_ne (n := 260) (tgt := 265) X dX12_plan_257 (by decide) (by omega) rfl (fun c96023 => ?_) (fun c96023 => ?_)
                      · refine g_aload_n (n := 266) X 0 dX12_plan_265 rfl rfl rfl ?_
                        refine g_iload (n := 268) X 2 dX12_plan_266 rfl rfl ?_
                        refine g_callVi (n := 271) (As := [gJ v91439]) (rest := []) (cs1 := 0) (ss1 := 0) X (s_X12_costOf6 v91439 (by omega) hsz IM91441 CM91441 ) okX12_costOf6 kw_8_5 ⟨kw_8_7, kw_0_87⟩ ⟨rfl, rfl⟩ ⟨Nat.le_of_ble_eq_true rfl, Nat.le_of_ble_eq_true rfl⟩ rfl (by decide) (gsz hsz (by decide)) lay_190 rfl rfl (Nat.le_of_ble_eq_true rfl) ⟨Nat.le_of_ble_eq_true rfl, Nat.le_of_ble_eq_true rfl⟩ rfl rfl dX12_plan_268 rfl (fun v96024 M96025 P96026 => ?_)
                        obtain ⟨rfl, rv96024⟩ := P96026
                        exact hq _ _ _ _ dX12_plan_271 ⟨by omega, IM91441, CM91441, (gFr.c gFr.rf FM91441 rfl), (fun b h0 h1 => ((hE103 b h0 h1).trans rfl))⟩
                      · refine g_iload (n := 262) X 2 dX12_plan_260 rfl rfl ?_
                        refine g_goto (tgt := 271) X dX12_plan_262 (by decide) ?_
                        exact hq _ _ _ _ dX12_plan_271 ⟨by omega, IM91441, CM91441, (gFr.c gFr.rf FM91441 rfl), (fun b h0 h1 => ((hE103 b h0 h1).trans rfl))⟩
                    · refine g_bipush (n := 253) X dX12_plan_251 (by decide +kernel) rfl ?_
                      refine g_goto (tgt := 271) X dX12_plan_253 (by decide) ?_
                      exact hq _ _ _ _ dX12_plan_271 ⟨by omega, IM91441, CM91441, (gFr.c gFr.rf FM91441 rfl), (fun b h0 h1 => ((hE103 b h0 h1).trans rfl))⟩
                  · refine g_iload (n := 119) X 2 dX12_plan_117 rfl rfl ?_
                    refine g_iconst (n := 120) X dX12_plan_119 rfl ?_
                    refine g_icmp_eq (n := 123) (tgt := 166) X dX12_plan_120 (by decide) (by omega) (by omega) rfl (fun c96027 => ?_) (fun c96027 => ?_)
                    · refine g_iconst (n := 167) X dX12_plan_166 rfl ?_
                      refine g_goto (tgt := 171) X dX12_plan_167 (by decide) ?_
                      refine g_istore (n := 173) (L' := [(6, gJ 1), (0, gA n0 190), (1, gJ a), (4, gJ v91439), (5, gJ v91440)]) X dX12_plan_171 (by decide) rfl rfl ?_
                      refine g_iconst (n := 174) X dX12_plan_173 rfl ?_
                      refine g_istore (n := 176) (L' := [(7, gJ 0), (6, gJ 1), (0, gA n0 190), (1, gJ a), (4, gJ v91439), (5, gJ v91440)]) X dX12_plan_174 (by decide) rfl rfl ?_
                      have j96031 : ∀ (N96068 : Nat) (v96028 v96029 : Int) (M96030 : gM) , (0 ≤ v96028 ∧ v96028 ≤ 1) → (0 ≤ v96029 ∧ v96029 ≤ 3) → gI sz M96030 → gC sz M96030 → gFr 3559081726569396693205254144 M91441 M96030 → (∀ b : Int, 0 ≤ b → b < 25301 → M96030 191 b = M91441 191 b) → (3 - v96029).toNat < N96068 → G p l e R_X12_plan s m args below meth cd n0 D cA 8 Q 0 0 M96030 sz 176 [(0, gA n0 190), (1, gJ a), (4, gJ v91439), (5, gJ v91440), (6, gJ v96028), (7, gJ v96029)] [] := by
                        intro N96068; induction N96068 with
                        | zero => intro v96028 v96029 M96030 rv96028 rv96029 IM96030 CM96030 FM96030 hE176 hm96070; exfalso; omega
                        | succ N96068 ih96069 =>
                          intro v96028 v96029 M96030 rv96028 rv96029 IM96030 CM96030 FM96030 hE176 hm96070
                          refine g_iload (n := 178) X 5 dX12_plan_176 rfl rfl ?_
                          refine g_iconst (n := 179) X dX12_plan_178 rfl ?_
                          refine g_icmp_ge (n := 182) (tgt := 225) X dX12_plan_179 (by decide) (by omega) (by omega) rfl (fun c96071 => ?_) (fun c96071 => ?_)
                          · refine g_iload (n := 227) X 4 dX12_plan_225 rfl rfl ?_
                            refine g_if_eq (n := 230) (tgt := 235) X dX12_plan_227 (by decide) (by omega) rfl (fun c96072 => ?_) (fun c96072 => ?_)
                            · refine g_iload (n := 237) X 2 dX12_plan_235 rfl rfl ?_
                              refine g_istore (n := 239) (L' := [(4, gJ v91439), (0, gA n0 190), (1, gJ a), (5, gJ v91440), (6, gJ v96028), (7, gJ v96029)]) X dX12_plan_237 (by decide) rfl rfl ?_
                              refine g_iinc (n := 242) (w := v91440 + 1) (L' := [(5, gJ (v91440 + 1)), (4, gJ v91439), (0, gA n0 190), (1, gJ a), (6, gJ v96028), (7, gJ v96029)]) X 3 dX12_plan_239 rfl rfl (by decide) rfl rfl ?_
                              refine g_goto (tgt := 103) X dX12_plan_242 (by decide) ?_
                              refine G.sub (L' := [(0, gA n0 190), (1, gJ a), (4, gJ v91439), (5, gJ (v91440 + 1))]) [2, 3, 1, 0] rfl ?_
                              exact ih96017 v91439 (v91440 + 1) M96030 (by omega) (by omega) IM96030 CM96030 (gFr.c (gFr.c gFr.rf FM91441 rfl) FM96030 rfl) (fun b h0 h1 => ((hE176 b h0 h1).trans ((hE103 b h0 h1).trans rfl))) (by omega)
                            · refine g_iload (n := 232) X 3 dX12_plan_230 rfl rfl ?_
                              refine g_goto (tgt := 237) X dX12_plan_232 (by decide) ?_
                              refine g_istore (n := 239) (L' := [(4, gJ v91440), (0, gA n0 190), (1, gJ a), (5, gJ v91440), (6, gJ v96028), (7, gJ v96029)]) X dX12_plan_237 (by decide) rfl rfl ?_
                              refine g_iinc (n := 242) (w := v91440 + 1) (L' := [(5, gJ (v91440 + 1)), (4, gJ v91440), (0, gA n0 190), (1, gJ a), (6, gJ v96028), (7, gJ v96029)]) X 3 dX12_plan_239 rfl rfl (by decide) rfl rfl ?_
                              refine g_goto (tgt := 103) X dX12_plan_242 (by decide) ?_
                              refine G.sub (L' := [(0, gA n0 190), (1, gJ a), (4, gJ v91440), (5, gJ (v91440 + 1))]) [2, 3, 1, 0] rfl ?_
                              exact ih96017 v91440 (v91440 + 1) M96030 (by omega) (by omega) IM96030 CM96030 (gFr.c (gFr.c gFr.rf FM91441 rfl) FM96030 rfl) (fun b h0 h1 => ((hE176 b h0 h1).trans ((hE103 b h0 h1).trans rfl))) (by omega)
                          · refine g_iload (n := 184) X 4 dX12_plan_182 rfl rfl ?_
                            refine g_if_eq (n := 187) (tgt := 225) X dX12_plan_184 (by decide) (by omega) rfl (fun c96073 => ?_) (fun c96073 => ?_)
                            · refine g_iload (n := 227) X 4 dX12_plan_225 rfl rfl ?_
                              refine g_if_eq (n := 230) (tgt := 235) X dX12_plan_227 (by decide) (by omega) rfl (fun c96074 => ?_) (fun c96074 => by exfalso; omega)
                              refine g_iload (n := 237) X 2 dX12_plan_235 rfl rfl ?_
                              refine g_istore (n := 239) (L' := [(4, gJ v91439), (0, gA n0 190), (1, gJ a), (5, gJ v91440), (6, gJ v96028), (7, gJ v96029)]) X dX12_plan_237 (by decide) rfl rfl ?_
                              refine g_iinc (n := 242) (w := v91440 + 1) (L' := [(5, gJ (v91440 + 1)), (4, gJ v91439), (0, gA n0 190), (1, gJ a), (6, gJ v96028), (7, gJ v96029)]) X 3 dX12_plan_239 rfl rfl (by decide) rfl rfl ?_
                              refine g_goto (tgt := 103) X dX12_plan_242 (by decide) ?_
                              refine G.sub (L' := [(0, gA n0 190), (1, gJ a), (4, gJ v91439), (5, gJ (v91440 + 1))]) [2, 3, 1, 0] rfl ?_
                              exact ih96017 v91439 (v91440 + 1) M96030 (by omega) (by omega) IM96030 CM96030 (gFr.c (gFr.c gFr.rf FM91441 rfl) FM96030 rfl) (fun b h0 h1 => ((hE176 b h0 h1).trans ((hE103 b h0 h1).trans rfl))) (by omega)
                            · refine g_aload_n (n := 188) X 0 dX12_plan_187 rfl rfl rfl ?_
                              refine gg_12_1 (n := 191) (z := 191) X (by decide) (gsz hsz (by decide)) lay_190 kw_6_27 dX12_plan_188 rfl (rf_190_1 IM96030 (gsz hsz (by decide))) (by decide) ?_
                              refine g_sipush (n := 194) X dX12_plan_191 (by decide +kernel) rfl ?_
                              refine g_iload (n := 196) X 5 dX12_plan_194 rfl rfl ?_
                              refine g_iadd (n := 197) (z := v96029 + 2580) X dX12_plan_196 (by omega) rfl ?_
                              obtain ⟨v96075, hv96075, rv96075⟩ := gRd IM96030 (by decide) (gsz hsz (by decide)) (rs_FMANY (k := v96029 + 2580) (by omega)).1
                              refine g_iald2 (n := 198) (v := v96075) X (by decide) (gsz hsz (by decide)) lay_191 (by omega) (by omega) (by decide) dX12_plan_197 rfl hv96075 ?_
                              refine g_if_eq (n := 201) (tgt := 212) X dX12_plan_198 (by decide) (by omega) rfl (fun c96076 => ?_) (fun c96076 => ?_)
                              · refine g_iconst (n := 213) X dX12_plan_212 rfl ?_
                                refine g_goto (tgt := 217) X dX12_plan_213 (by decide) ?_
                                refine g_istore (n := 219) (L' := [(6, gJ 1), (0, gA n0 190), (1, gJ a), (4, gJ v91439), (5, gJ v91440), (7, gJ v96029)]) X dX12_plan_217 (by decide) rfl rfl ?_
                                refine g_iinc (n := 222) (w := v96029 + 1) (L' := [(7, gJ (v96029 + 1)), (6, gJ 1), (0, gA n0 190), (1, gJ a), (4, gJ v91439), (5, gJ v91440)]) X 5 dX12_plan_219 rfl rfl (by decide) rfl rfl ?_
                                refine g_goto (tgt := 176) X dX12_plan_222 (by decide) ?_
                                refine G.sub (L' := [(0, gA n0 190), (1, gJ a), (4, gJ v91439), (5, gJ v91440), (6, gJ 1), (7, gJ (v96029 + 1))]) [2, 3, 4, 5, 1, 0] rfl ?_
                                exact ih96069 1 (v96029 + 1) M96030 (by omega) (by omega) IM96030 CM96030 (gFr.c gFr.rf FM96030 rfl) (fun b h0 h1 => ((hE176 b h0 h1).trans rfl)) (by omega)
                              · refine g_aload_n (n := 202) X 0 dX12_plan_201 rfl rfl rfl ?_
                                refine g_iload (n := 204) X 3 dX12_plan_202 rfl rfl ?_
                                refine g_iload (n := 206) X 5 dX12_plan_204 rfl rfl ?_
                                have hfit := (hbeyond.resolve_left (by omega)) v96029 (by omega) (by omega)
                                rw [← ((fun b h0 h1 => ((hE176 b h0 h1).trans ((hE103 b h0 h1).trans rfl))) : ∀ b : Int, 0 ≤ b → b < 25301 → M96030 191 b = M 191 b) 0 (by decide) (by decide), ← ((fun b h0 h1 => ((hE176 b h0 h1).trans ((hE103 b h0 h1).trans rfl))) : ∀ b : Int, 0 ≤ b → b < 25301 → M96030 191 b = M 191 b) (v96029 + 2580) (by omega) (by omega)] at hfit
                                refine g_callVi (n := 209) (As := [gJ v91440, gJ v96029]) (rest := []) (cs1 := 0) (ss1 := 0) X (s_X12_isWell v91440 (by omega) v96029 (by omega) hsz IM96030 CM96030 (gW.eq (gW.eq W I ⟨by decide, gsz hsz (by decide)⟩ (fun _ => rfl) hE103) IM91441 ⟨by decide, gsz hsz (by decide)⟩ (fun _ => rfl) hE176) (by have q0 := ((hE176 0 (by omega) (by omega)).trans ((hE103 0 (by omega) (by omega)).trans hv1)); have q1 := hv96075; omega)) okX12_isWell kw_8_9 ⟨kw_8_11, kw_0_88⟩ ⟨rfl, rfl⟩ ⟨Nat.le_of_ble_eq_true rfl, Nat.le_of_ble_eq_true rfl⟩ rfl (by decide) (gsz hsz (by decide)) lay_190 rfl rfl (Nat.le_of_ble_eq_true rfl) ⟨Nat.le_of_ble_eq_true rfl, Nat.le_of_ble_eq_true rfl⟩ rfl rfl dX12_plan_206 rfl (fun v96077 M96078 P96079 => ?_)
                                obtain ⟨rv96077, IM96078, CM96078, FM96078, xM96078⟩ := P96079
                                refine g_if_eq (n := 212) (tgt := 216) X dX12_plan_209 (by decide) (by omega) rfl (fun c96080 => ?_) (fun c96080 => ?_)
                                · refine g_iconst (n := 217) X dX12_plan_216 rfl ?_
                                  refine g_istore (n := 219) (L' := [(6, gJ 0), (0, gA n0 190), (1, gJ a), (4, gJ v91439), (5, gJ v91440), (7, gJ v96029)]) X dX12_plan_217 (by decide) rfl rfl ?_
                                  refine g_iinc (n := 222) (w := v96029 + 1) (L' := [(7, gJ (v96029 + 1)), (6, gJ 0), (0, gA n0 190), (1, gJ a), (4, gJ v91439), (5, gJ v91440)]) X 5 dX12_plan_219 rfl rfl (by decide) rfl rfl ?_
                                  refine g_goto (tgt := 176) X dX12_plan_222 (by decide) ?_
                                  refine G.sub (L' := [(0, gA n0 190), (1, gJ a), (4, gJ v91439), (5, gJ v91440), (6, gJ 0), (7, gJ (v96029 + 1))]) [2, 3, 4, 5, 1, 0] rfl ?_
                                  exact ih96069 0 (v96029 + 1) M96078 (by omega) (by omega) IM96078 CM96078 (gFr.c (gFr.c gFr.rf FM96030 rfl) FM96078 rfl) (fun b h0 h1 => ((xM96078 b h0 h1).trans ((hE176 b h0 h1).trans rfl))) (by omega)
                                · refine g_iconst (n := 213) X dX12_plan_212 rfl ?_
                                  refine g_goto (tgt := 217) X dX12_plan_213 (by decide) ?_
                                  refine g_istore (n := 219) (L' := [(6, gJ 1), (0, gA n0 190), (1, gJ a), (4, gJ v91439), (5, gJ v91440), (7, gJ v96029)]) X dX12_plan_217 (by decide) rfl rfl ?_
                                  refine g_iinc (n := 222) (w := v96029 + 1) (L' := [(7, gJ (v96029 + 1)), (6, gJ 1), (0, gA n0 190), (1, gJ a), (4, gJ v91439), (5, gJ v91440)]) X 5 dX12_plan_219 rfl rfl (by decide) rfl rfl ?_
                                  refine g_goto (tgt := 176) X dX12_plan_222 (by decide) ?_
                                  refine G.sub (L' := [(0, gA n0 190), (1, gJ a), (4, gJ v91439), (5, gJ v91440), (6, gJ 1), (7, gJ (v96029 + 1))]) [2, 3, 4, 5, 1, 0] rfl ?_
                                  exact ih96069 1 (v96029 + 1) M96078 (by omega) (by omega) IM96078 CM96078 (gFr.c (gFr.c gFr.rf FM96030 rfl) FM96078 rfl) (fun b h0 h1 => ((xM96078 b h0 h1).trans ((hE176 b h0 h1).trans rfl))) (by omega)
                      refine G.sub (L' := [(0, gA n0 190), (1, gJ a), (4, gJ v91439), (5, gJ v91440), (6, gJ 1), (7, gJ 0)]) [2, 3, 4, 5, 1, 0] rfl ?_
                      exact j96031 _ 1 0 M91441 (by omega) (by omega) IM91441 CM91441 gFr.rf (fun b h0 h1 => rfl) (Nat.lt_succ_self _)
                    · refine g_aload_n (n := 124) X 0 dX12_plan_123 rfl rfl rfl ?_
                      refine g_iload (n := 126) X 3 dX12_plan_124 rfl rfl ?_
                      refine g_callVi (n := 129) (As := [gJ v91440]) (rest := []) (cs1 := 0) (ss1 := 0) X (s_X12_costOf6 v91440 (by omega) hsz IM91441 CM91441 ) okX12_costOf6 kw_8_5 ⟨kw_8_7, kw_0_87⟩ ⟨rfl, rfl⟩ ⟨Nat.le_of_ble_eq_true rfl, Nat.le_of_ble_eq_true rfl⟩ rfl (by decide) (gsz hsz (by decide)) lay_190 rfl rfl (Nat.le_of_ble_eq_true rfl) ⟨Nat.le_of_ble_eq_true rfl, Nat.le_of_ble_eq_true rfl⟩ rfl rfl dX12_plan_126 rfl (fun v96081 M96082 P96083 => ?_)
                      obtain ⟨rfl, rv96081⟩ := P96083
                      refine g_aload_n (n := 130) X 0 dX12_plan_129 rfl rfl rfl ?_
                      refine g_iload (n := 132) X 2 dX12_plan_130 rfl rfl ?_
                      refine g_callVi (n := 135) (As := [gJ v91439]) (rest := [gJ v96081]) (cs1 := 0) (ss1 := 0) X (s_X12_costOf6 v91439 (by omega) hsz IM91441 CM91441 ) okX12_costOf6 kw_8_5 ⟨kw_8_7, kw_0_87⟩ ⟨rfl, rfl⟩ ⟨Nat.le_of_ble_eq_true rfl, Nat.le_of_ble_eq_true rfl⟩ rfl (by decide) (gsz hsz (by decide)) lay_190 rfl rfl (Nat.le_of_ble_eq_true rfl) ⟨Nat.le_of_ble_eq_true rfl, Nat.le_of_ble_eq_true rfl⟩ rfl rfl dX12_plan_132 rfl (fun v96084 M96085 P96086 => ?_)
                      obtain ⟨rfl, rv96084⟩ := P96086
                      refine g_icmp_lt (n := 138) (tgt := 166) X dX12_plan_135 (by decide) (by omega) (by omega) rfl (fun c96087 => ?_) (fun c96087 => ?_)
                      · refine g_iconst (n := 167) X dX12_plan_166 rfl ?_
                        refine g_goto (tgt := 171) X dX12_plan_167 (by decide) ?_
                        refine g_istore (n := 173) (L' := [(6, gJ 1), (0, gA n0 190), (1, gJ a), (4, gJ v91439), (5, gJ v91440)]) X dX12_plan_171 (by decide) rfl rfl ?_
                        refine g_iconst (n := 174) X dX12_plan_173 rfl ?_
                        refine g_istore (n := 176) (L' := [(7, gJ 0), (6, gJ 1), (0, gA n0 190), (1, gJ a), (4, gJ v91439), (5, gJ v91440)]) X dX12_plan_174 (by decide) rfl rfl ?_
                        have j96091 : ∀ (N96128 : Nat) (v96088 v96089 : Int) (M96090 : gM) , (0 ≤ v96088 ∧ v96088 ≤ 1) → (0 ≤ v96089 ∧ v96089 ≤ 3) → gI sz M96090 → gC sz M96090 → gFr 3559081726569396693205254144 M91441 M96090 → (∀ b : Int, 0 ≤ b → b < 25301 → M96090 191 b = M91441 191 b) → (3 - v96089).toNat < N96128 → G p l e R_X12_plan s m args below meth cd n0 D cA 8 Q 0 0 M96090 sz 176 [(0, gA n0 190), (1, gJ a), (4, gJ v91439), (5, gJ v91440), (6, gJ v96088), (7, gJ v96089)] [] := by
                          intro N96128; induction N96128 with
                          | zero => intro v96088 v96089 M96090 rv96088 rv96089 IM96090 CM96090 FM96090 hE176 hm96130; exfalso; omega
                          | succ N96128 ih96129 =>
                            intro v96088 v96089 M96090 rv96088 rv96089 IM96090 CM96090 FM96090 hE176 hm96130
                            refine g_iload (n := 178) X 5 dX12_plan_176 rfl rfl ?_
                            refine g_iconst (n := 179) X dX12_plan_178 rfl ?_
                            refine g_icmp_ge (n := 182) (tgt := 225) X dX12_plan_179 (by decide) (by omega) (by omega) rfl (fun c96131 => ?_) (fun c96131 => ?_)
                            · refine g_iload (n := 227) X 4 dX12_plan_225 rfl rfl ?_
                              refine g_if_eq (n := 230) (tgt := 235) X dX12_plan_227 (by decide) (by omega) rfl (fun c96132 => ?_) (fun c96132 => ?_)
                              · refine g_iload (n := 237) X 2 dX12_plan_235 rfl rfl ?_
                                refine g_istore (n := 239) (L' := [(4, gJ v91439), (0, gA n0 190), (1, gJ a), (5, gJ v91440), (6, gJ v96088), (7, gJ v96089)]) X dX12_plan_237 (by decide) rfl rfl ?_
                                refine g_iinc (n := 242) (w := v91440 + 1) (L' := [(5, gJ (v91440 + 1)), (4, gJ v91439), (0, gA n0 190), (1, gJ a), (6, gJ v96088), (7, gJ v96089)]) X 3 dX12_plan_239 rfl rfl (by decide) rfl rfl ?_
                                refine g_goto (tgt := 103) X dX12_plan_242 (by decide) ?_
                                refine G.sub (L' := [(0, gA n0 190), (1, gJ a), (4, gJ v91439), (5, gJ (v91440 + 1))]) [2, 3, 1, 0] rfl ?_
                                exact ih96017 v91439 (v91440 + 1) M96090 (by omega) (by omega) IM96090 CM96090 (gFr.c (gFr.c gFr.rf FM91441 rfl) FM96090 rfl) (fun b h0 h1 => ((hE176 b h0 h1).trans ((hE103 b h0 h1).trans rfl))) (by omega)
                              · refine g_iload (n := 232) X 3 dX12_plan_230 rfl rfl ?_
                                refine g_goto (tgt := 237) X dX12_plan_232 (by decide) ?_
                                refine g_istore (n := 239) (L' := [(4, gJ v91440), (0, gA n0 190), (1, gJ a), (5, gJ v91440), (6, gJ v96088), (7, gJ v96089)]) X dX12_plan_237 (by decide) rfl rfl ?_
                                refine g_iinc (n := 242) (w := v91440 + 1) (L' := [(5, gJ (v91440 + 1)), (4, gJ v91440), (0, gA n0 190), (1, gJ a), (6, gJ v96088), (7, gJ v96089)]) X 3 dX12_plan_239 rfl rfl (by decide) rfl rfl ?_
                                refine g_goto (tgt := 103) X dX12_plan_242 (by decide) ?_
                                refine G.sub (L' := [(0, gA n0 190), (1, gJ a), (4, gJ v91440), (5, gJ (v91440 + 1))]) [2, 3, 1, 0] rfl ?_
                                exact ih96017 v91440 (v91440 + 1) M96090 (by omega) (by omega) IM96090 CM96090 (gFr.c (gFr.c gFr.rf FM91441 rfl) FM96090 rfl) (fun b h0 h1 => ((hE176 b h0 h1).trans ((hE103 b h0 h1).trans rfl))) (by omega)
                            · refine g_iload (n := 184) X 4 dX12_plan_182 rfl rfl ?_
                              refine g_if_eq (n := 187) (tgt := 225) X dX12_plan_184 (by decide) (by omega) rfl (fun c96133 => ?_) (fun c96133 => ?_)
                              · refine g_iload (n := 227) X 4 dX12_plan_225 rfl rfl ?_
                                refine g_if_eq (n := 230) (tgt := 235) X dX12_plan_227 (by decide) (by omega) rfl (fun c96134 => ?_) (fun c96134 => by exfalso; omega)
                                refine g_iload (n := 237) X 2 dX12_plan_235 rfl rfl ?_
                                refine g_istore (n := 239) (L' := [(4, gJ v91439), (0, gA n0 190), (1, gJ a), (5, gJ v91440), (6, gJ v96088), (7, gJ v96089)]) X dX12_plan_237 (by decide) rfl rfl ?_
                                refine g_iinc (n := 242) (w := v91440 + 1) (L' := [(5, gJ (v91440 + 1)), (4, gJ v91439), (0, gA n0 190), (1, gJ a), (6, gJ v96088), (7, gJ v96089)]) X 3 dX12_plan_239 rfl rfl (by decide) rfl rfl ?_
                                refine g_goto (tgt := 103) X dX12_plan_242 (by decide) ?_
                                refine G.sub (L' := [(0, gA n0 190), (1, gJ a), (4, gJ v91439), (5, gJ (v91440 + 1))]) [2, 3, 1, 0] rfl ?_
                                exact ih96017 v91439 (v91440 + 1) M96090 (by omega) (by omega) IM96090 CM96090 (gFr.c (gFr.c gFr.rf FM91441 rfl) FM96090 rfl) (fun b h0 h1 => ((hE176 b h0 h1).trans ((hE103 b h0 h1).trans rfl))) (by omega)
                              · refine g_aload_n (n := 188) X 0 dX12_plan_187 rfl rfl rfl ?_
                                refine gg_12_1 (n := 191) (z := 191) X (by decide) (gsz hsz (by decide)) lay_190 kw_6_27 dX12_plan_188 rfl (rf_190_1 IM96090 (gsz hsz (by decide))) (by decide) ?_
                                refine g_sipush (n := 194) X dX12_plan_191 (by decide +kernel) rfl ?_
                                refine g_iload (n := 196) X 5 dX12_plan_194 rfl rfl ?_
                                refine g_iadd (n := 197) (z := v96089 + 2580) X dX12_plan_196 (by omega) rfl ?_
                                obtain ⟨v96135, hv96135, rv96135⟩ := gRd IM96090 (by decide) (gsz hsz (by decide)) (rs_FMANY (k := v96089 + 2580) (by omega)).1
                                refine g_iald2 (n := 198) (v := v96135) X (by decide) (gsz hsz (by decide)) lay_191 (by omega) (by omega) (by decide) dX12_plan_197 rfl hv96135 ?_
                                refine g_if_eq (n := 201) (tgt := 212) X dX12_plan_198 (by decide) (by omega) rfl (fun c96136 => ?_) (fun c96136 => ?_)
                                · refine g_iconst (n := 213) X dX12_plan_212 rfl ?_
                                  refine g_goto (tgt := 217) X dX12_plan_213 (by decide) ?_
                                  refine g_istore (n := 219) (L' := [(6, gJ 1), (0, gA n0 190), (1, gJ a), (4, gJ v91439), (5, gJ v91440), (7, gJ v96089)]) X dX12_plan_217 (by decide) rfl rfl ?_
                                  refine g_iinc (n := 222) (w := v96089 + 1) (L' := [(7, gJ (v96089 + 1)), (6, gJ 1), (0, gA n0 190), (1, gJ a), (4, gJ v91439), (5, gJ v91440)]) X 5 dX12_plan_219 rfl rfl (by decide) rfl rfl ?_
                                  refine g_goto (tgt := 176) X dX12_plan_222 (by decide) ?_
                                  refine G.sub (L' := [(0, gA n0 190), (1, gJ a), (4, gJ v91439), (5, gJ v91440), (6, gJ 1), (7, gJ (v96089 + 1))]) [2, 3, 4, 5, 1, 0] rfl ?_
                                  exact ih96129 1 (v96089 + 1) M96090 (by omega) (by omega) IM96090 CM96090 (gFr.c gFr.rf FM96090 rfl) (fun b h0 h1 => ((hE176 b h0 h1).trans rfl)) (by omega)
                                · refine g_aload_n (n := 202) X 0 dX12_plan_201 rfl rfl rfl ?_
                                  refine g_iload (n := 204) X 3 dX12_plan_202 rfl rfl ?_
                                  refine g_iload (n := 206) X 5 dX12_plan_204 rfl rfl ?_
                                  have hfit := (hbeyond.resolve_left (by omega)) v96089 (by omega) (by omega)
                                  rw [← ((fun b h0 h1 => ((hE176 b h0 h1).trans ((hE103 b h0 h1).trans rfl))) : ∀ b : Int, 0 ≤ b → b < 25301 → M96090 191 b = M 191 b) 0 (by decide) (by decide), ← ((fun b h0 h1 => ((hE176 b h0 h1).trans ((hE103 b h0 h1).trans rfl))) : ∀ b : Int, 0 ≤ b → b < 25301 → M96090 191 b = M 191 b) (v96089 + 2580) (by omega) (by omega)] at hfit
                                  refine g_callVi (n := 209) (As := [gJ v91440, gJ v96089]) (rest := []) (cs1 := 0) (ss1 := 0) X (s_X12_isWell v91440 (by omega) v96089 (by omega) hsz IM96090 CM96090 (gW.eq (gW.eq W I ⟨by decide, gsz hsz (by decide)⟩ (fun _ => rfl) hE103) IM91441 ⟨by decide, gsz hsz (by decide)⟩ (fun _ => rfl) hE176) (by have q0 := ((hE176 0 (by omega) (by omega)).trans ((hE103 0 (by omega) (by omega)).trans hv1)); have q1 := hv96135; omega)) okX12_isWell kw_8_9 ⟨kw_8_11, kw_0_88⟩ ⟨rfl, rfl⟩ ⟨Nat.le_of_ble_eq_true rfl, Nat.le_of_ble_eq_true rfl⟩ rfl (by decide) (gsz hsz (by decide)) lay_190 rfl rfl (Nat.le_of_ble_eq_true rfl) ⟨Nat.le_of_ble_eq_true rfl, Nat.le_of_ble_eq_true rfl⟩ rfl rfl dX12_plan_206 rfl (fun v96137 M96138 P96139 => ?_)
                                  obtain ⟨rv96137, IM96138, CM96138, FM96138, xM96138⟩ := P96139
                                  refine g_if_eq (n := 212) (tgt := 216) X dX12_plan_209 (by decide) (by omega) rfl (fun c96140 => ?_) (fun c96140 => ?_)
                                  · refine g_iconst (n := 217) X dX12_plan_216 rfl ?_
                                    refine g_istore (n := 219) (L' := [(6, gJ 0), (0, gA n0 190), (1, gJ a), (4, gJ v91439), (5, gJ v91440), (7, gJ v96089)]) X dX12_plan_217 (by decide) rfl rfl ?_
                                    refine g_iinc (n := 222) (w := v96089 + 1) (L' := [(7, gJ (v96089 + 1)), (6, gJ 0), (0, gA n0 190), (1, gJ a), (4, gJ v91439), (5, gJ v91440)]) X 5 dX12_plan_219 rfl rfl (by decide) rfl rfl ?_
                                    refine g_goto (tgt := 176) X dX12_plan_222 (by decide) ?_
                                    refine G.sub (L' := [(0, gA n0 190), (1, gJ a), (4, gJ v91439), (5, gJ v91440), (6, gJ 0), (7, gJ (v96089 + 1))]) [2, 3, 4, 5, 1, 0] rfl ?_
                                    exact ih96129 0 (v96089 + 1) M96138 (by omega) (by omega) IM96138 CM96138 (gFr.c (gFr.c gFr.rf FM96090 rfl) FM96138 rfl) (fun b h0 h1 => ((xM96138 b h0 h1).trans ((hE176 b h0 h1).trans rfl))) (by omega)
                                  · refine g_iconst (n := 213) X dX12_plan_212 rfl ?_
                                    refine g_goto (tgt := 217) X dX12_plan_213 (by decide) ?_
                                    refine g_istore (n := 219) (L' := [(6, gJ 1), (0, gA n0 190), (1, gJ a), (4, gJ v91439), (5, gJ v91440), (7, gJ v96089)]) X dX12_plan_217 (by decide) rfl rfl ?_
                                    refine g_iinc (n := 222) (w := v96089 + 1) (L' := [(7, gJ (v96089 + 1)), (6, gJ 1), (0, gA n0 190), (1, gJ a), (4, gJ v91439), (5, gJ v91440)]) X 5 dX12_plan_219 rfl rfl (by decide) rfl rfl ?_
                                    refine g_goto (tgt := 176) X dX12_plan_222 (by decide) ?_
                                    refine G.sub (L' := [(0, gA n0 190), (1, gJ a), (4, gJ v91439), (5, gJ v91440), (6, gJ 1), (7, gJ (v96089 + 1))]) [2, 3, 4, 5, 1, 0] rfl ?_
                                    exact ih96129 1 (v96089 + 1) M96138 (by omega) (by omega) IM96138 CM96138 (gFr.c (gFr.c gFr.rf FM96090 rfl) FM96138 rfl) (fun b h0 h1 => ((xM96138 b h0 h1).trans ((hE176 b h0 h1).trans rfl))) (by omega)
                        refine G.sub (L' := [(0, gA n0 190), (1, gJ a), (4, gJ v91439), (5, gJ v91440), (6, gJ 1), (7, gJ 0)]) [2, 3, 4, 5, 1, 0] rfl ?_
                        exact j96091 _ 1 0 M91441 (by omega) (by omega) IM91441 CM91441 gFr.rf (fun b h0 h1 => rfl) (Nat.lt_succ_self _)
                      · refine g_aload_n (n := 139) X 0 dX12_plan_138 rfl rfl rfl ?_
                        refine g_iload (n := 141) X 3 dX12_plan_139 rfl rfl ?_
                        refine g_callVi (n := 144) (As := [gJ v91440]) (rest := []) (cs1 := 0) (ss1 := 0) X (s_X12_costOf6 v91440 (by omega) hsz IM91441 CM91441 ) okX12_costOf6 kw_8_5 ⟨kw_8_7, kw_0_87⟩ ⟨rfl, rfl⟩ ⟨Nat.le_of_ble_eq_true rfl, Nat.le_of_ble_eq_true rfl⟩ rfl (by decide) (gsz hsz (by decide)) lay_190 rfl rfl (Nat.le_of_ble_eq_true rfl) ⟨Nat.le_of_ble_eq_true rfl, Nat.le_of_ble_eq_true rfl⟩ rfl rfl dX12_plan_141 rfl (fun v96141 M96142 P96143 => ?_)
                        obtain ⟨rfl, rv96141⟩ := P96143
                        refine g_aload_n (n := 145) X 0 dX12_plan_144 rfl rfl rfl ?_
                        refine g_iload (n := 147) X 2 dX12_plan_145 rfl rfl ?_
                        refine g_callVi (n := 150) (As := [gJ v91439]) (rest := [gJ v96141]) (cs1 := 0) (ss1 := 0) X (s_X12_costOf6 v91439 (by omega) hsz IM91441 CM91441 ) okX12_costOf6 kw_8_5 ⟨kw_8_7, kw_0_87⟩ ⟨rfl, rfl⟩ ⟨Nat.le_of_ble_eq_true rfl, Nat.le_of_ble_eq_true rfl⟩ rfl (by decide) (gsz hsz (by decide)) lay_190 rfl rfl (Nat.le_of_ble_eq_true rfl) ⟨Nat.le_of_ble_eq_true rfl, Nat.le_of_ble_eq_true rfl⟩ rfl rfl dX12_plan_147 rfl (fun v96144 M96145 P96146 => ?_)
                        obtain ⟨rfl, rv96144⟩ := P96146
                        refine g_icmp_ne (n := 153) (tgt := 170) X dX12_plan_150 (by decide) (by omega) (by omega) rfl (fun c96147 => ?_) (fun c96147 => ?_)
                        · refine g_iconst (n := 171) X dX12_plan_170 rfl ?_
                          refine g_istore (n := 173) (L' := [(6, gJ 0), (0, gA n0 190), (1, gJ a), (4, gJ v91439), (5, gJ v91440)]) X dX12_plan_171 (by decide) rfl rfl ?_
                          refine g_iconst (n := 174) X dX12_plan_173 rfl ?_
                          refine g_istore (n := 176) (L' := [(7, gJ 0), (6, gJ 0), (0, gA n0 190), (1, gJ a), (4, gJ v91439), (5, gJ v91440)]) X dX12_plan_174 (by decide) rfl rfl ?_
                          have j96151 : ∀ (N96155 : Nat) (v96148 v96149 : Int) (M96150 : gM) , (0 ≤ v96148 ∧ v96148 ≤ 0) → (0 ≤ v96149 ∧ v96149 ≤ 0) → gI sz M96150 → gC sz M96150 → gFr 3559081726569396693205254144 M91441 M96150 → (∀ b : Int, 0 ≤ b → b < 25301 → M96150 191 b = M91441 191 b) → ((0 : Int)).toNat < N96155 → G p l e R_X12_plan s m args below meth cd n0 D cA 8 Q 0 0 M96150 sz 176 [(0, gA n0 190), (1, gJ a), (4, gJ v91439), (5, gJ v91440), (6, gJ v96148), (7, gJ v96149)] [] := by
                            intro N96155; induction N96155 with
                            | zero => intro v96148 v96149 M96150 rv96148 rv96149 IM96150 CM96150 FM96150 hE176 hm96157; exfalso; omega
                            | succ N96155 ih96156 =>
                              intro v96148 v96149 M96150 rv96148 rv96149 IM96150 CM96150 FM96150 hE176 hm96157
                              refine g_iload (n := 178) X 5 dX12_plan_176 rfl rfl ?_
                              refine g_iconst (n := 179) X dX12_plan_178 rfl ?_
                              refine g_icmp_ge (n := 182) (tgt := 225) X dX12_plan_179 (by decide) (by omega) (by omega) rfl (fun c96158 => by exfalso; omega) (fun c96158 => ?_)
                              refine g_iload (n := 184) X 4 dX12_plan_182 rfl rfl ?_
                              refine g_if_eq (n := 187) (tgt := 225) X dX12_plan_184 (by decide) (by omega) rfl (fun c96159 => ?_) (fun c96159 => by exfalso; omega)
                              refine g_iload (n := 227) X 4 dX12_plan_225 rfl rfl ?_
                              refine g_if_eq (n := 230) (tgt := 235) X dX12_plan_227 (by decide) (by omega) rfl (fun c96160 => ?_) (fun c96160 => by exfalso; omega)
                              refine g_iload (n := 237) X 2 dX12_plan_235 rfl rfl ?_
                              refine g_istore (n := 239) (L' := [(4, gJ v91439), (0, gA n0 190), (1, gJ a), (5, gJ v91440), (6, gJ v96148), (7, gJ v96149)]) X dX12_plan_237 (by decide) rfl rfl ?_
                              refine g_iinc (n := 242) (w := v91440 + 1) (L' := [(5, gJ (v91440 + 1)), (4, gJ v91439), (0, gA n0 190), (1, gJ a), (6, gJ v96148), (7, gJ v96149)]) X 3 dX12_plan_239 rfl rfl (by decide) rfl rfl ?_
                              refine g_goto (tgt := 103) X dX12_plan_242 (by decide) ?_
                              refine G.sub (L' := [(0, gA n0 190), (1, gJ a), (4, gJ v91439), (5, gJ (v91440 + 1))]) [2, 3, 1, 0] rfl ?_
                              exact ih96017 v91439 (v91440 + 1) M96150 (by omega) (by omega) IM96150 CM96150 (gFr.c (gFr.c gFr.rf FM91441 rfl) FM96150 rfl) (fun b h0 h1 => ((hE176 b h0 h1).trans ((hE103 b h0 h1).trans rfl))) (by omega)
                          refine G.sub (L' := [(0, gA n0 190), (1, gJ a), (4, gJ v91439), (5, gJ v91440), (6, gJ 0), (7, gJ 0)]) [2, 3, 4, 5, 1, 0] rfl ?_
                          exact j96151 _ 0 0 M91441 (by omega) (by omega) IM91441 CM91441 gFr.rf (fun b h0 h1 => rfl) (Nat.lt_succ_self _)
                        · refine g_iload (n := 155) X 3 dX12_plan_153 rfl rfl ?_
                          refine g_callSi (n := 158) (As := [gJ v91440]) (rest := []) (cs1 := 0) (ss1 := 0) X (s_X12_many v91440 (by omega) hsz IM91441 CM91441 ) okX12_many kw_6_224 kw_6_225 ⟨rfl, rfl⟩ ⟨Nat.le_of_ble_eq_true rfl, Nat.le_of_ble_eq_true rfl⟩ rfl rfl (Nat.le_of_ble_eq_true rfl) ⟨Nat.le_of_ble_eq_true rfl, Nat.le_of_ble_eq_true rfl⟩ rfl rfl dX12_plan_155 rfl (fun v96161 M96162 P96163 => ?_)
                          obtain ⟨rfl, rv96161⟩ := P96163
                          refine g_iload (n := 160) X 2 dX12_plan_158 rfl rfl ?_
                          refine g_callSi (n := 163) (As := [gJ v91439]) (rest := [gJ v96161]) (cs1 := 0) (ss1 := 0) X (s_X12_many v91439 (by omega) hsz IM91441 CM91441 ) okX12_many kw_6_224 kw_6_225 ⟨rfl, rfl⟩ ⟨Nat.le_of_ble_eq_true rfl, Nat.le_of_ble_eq_true rfl⟩ rfl rfl (Nat.le_of_ble_eq_true rfl) ⟨Nat.le_of_ble_eq_true rfl, Nat.le_of_ble_eq_true rfl⟩ rfl rfl dX12_plan_160 rfl (fun v96164 M96165 P96166 => ?_)
                          obtain ⟨rfl, rv96164⟩ := P96166
                          refine g_icmp_ge (n := 166) (tgt := 170) X dX12_plan_163 (by decide) (by omega) (by omega) rfl (fun c96167 => ?_) (fun c96167 => ?_)
                          · refine g_iconst (n := 171) X dX12_plan_170 rfl ?_
                            refine g_istore (n := 173) (L' := [(6, gJ 0), (0, gA n0 190), (1, gJ a), (4, gJ v91439), (5, gJ v91440)]) X dX12_plan_171 (by decide) rfl rfl ?_
                            refine g_iconst (n := 174) X dX12_plan_173 rfl ?_
                            refine g_istore (n := 176) (L' := [(7, gJ 0), (6, gJ 0), (0, gA n0 190), (1, gJ a), (4, gJ v91439), (5, gJ v91440)]) X dX12_plan_174 (by decide) rfl rfl ?_
                            have j96171 : ∀ (N96175 : Nat) (v96168 v96169 : Int) (M96170 : gM) , (0 ≤ v96168 ∧ v96168 ≤ 0) → (0 ≤ v96169 ∧ v96169 ≤ 0) → gI sz M96170 → gC sz M96170 → gFr 3559081726569396693205254144 M91441 M96170 → (∀ b : Int, 0 ≤ b → b < 25301 → M96170 191 b = M91441 191 b) → ((0 : Int)).toNat < N96175 → G p l e R_X12_plan s m args below meth cd n0 D cA 8 Q 0 0 M96170 sz 176 [(0, gA n0 190), (1, gJ a), (4, gJ v91439), (5, gJ v91440), (6, gJ v96168), (7, gJ v96169)] [] := by
                              intro N96175; induction N96175 with
                              | zero => intro v96168 v96169 M96170 rv96168 rv96169 IM96170 CM96170 FM96170 hE176 hm96177; exfalso; omega
                              | succ N96175 ih96176 =>
                                intro v96168 v96169 M96170 rv96168 rv96169 IM96170 CM96170 FM96170 hE176 hm96177
                                refine g_iload (n := 178) X 5 dX12_plan_176 rfl rfl ?_
                                refine g_iconst (n := 179) X dX12_plan_178 rfl ?_
                                refine g_icmp_ge (n := 182) (tgt := 225) X dX12_plan_179 (by decide) (by omega) (by omega) rfl (fun c96178 => by exfalso; omega) (fun c96178 => ?_)
                                refine g_iload (n := 184) X 4 dX12_plan_182 rfl rfl ?_
                                refine g_if_eq (n := 187) (tgt := 225) X dX12_plan_184 (by decide) (by omega) rfl (fun c96179 => ?_) (fun c96179 => by exfalso; omega)
                                refine g_iload (n := 227) X 4 dX12_plan_225 rfl rfl ?_
                                refine g_if_eq (n := 230) (tgt := 235) X dX12_plan_227 (by decide) (by omega) rfl (fun c96180 => ?_) (fun c96180 => by exfalso; omega)
                                refine g_iload (n := 237) X 2 dX12_plan_235 rfl rfl ?_
                                refine g_istore (n := 239) (L' := [(4, gJ v91439), (0, gA n0 190), (1, gJ a), (5, gJ v91440), (6, gJ v96168), (7, gJ v96169)]) X dX12_plan_237 (by decide) rfl rfl ?_
                                refine g_iinc (n := 242) (w := v91440 + 1) (L' := [(5, gJ (v91440 + 1)), (4, gJ v91439), (0, gA n0 190), (1, gJ a), (6, gJ v96168), (7, gJ v96169)]) X 3 dX12_plan_239 rfl rfl (by decide) rfl rfl ?_
                                refine g_goto (tgt := 103) X dX12_plan_242 (by decide) ?_
                                refine G.sub (L' := [(0, gA n0 190), (1, gJ a), (4, gJ v91439), (5, gJ (v91440 + 1))]) [2, 3, 1, 0] rfl ?_
                                exact ih96017 v91439 (v91440 + 1) M96170 (by omega) (by omega) IM96170 CM96170 (gFr.c (gFr.c gFr.rf FM91441 rfl) FM96170 rfl) (fun b h0 h1 => ((hE176 b h0 h1).trans ((hE103 b h0 h1).trans rfl))) (by omega)
                            refine G.sub (L' := [(0, gA n0 190), (1, gJ a), (4, gJ v91439), (5, gJ v91440), (6, gJ 0), (7, gJ 0)]) [2, 3, 4, 5, 1, 0] rfl ?_
                            exact j96171 _ 0 0 M91441 (by omega) (by omega) IM91441 CM91441 gFr.rf (fun b h0 h1 => rfl) (Nat.lt_succ_self _)
                          · refine g_iconst (n := 167) X dX12_plan_166 rfl ?_
                            refine g_goto (tgt := 171) X dX12_plan_167 (by decide) ?_
                            refine g_istore (n := 173) (L' := [(6, gJ 1), (0, gA n0 190), (1, gJ a), (4, gJ v91439), (5, gJ v91440)]) X dX12_plan_171 (by decide) rfl rfl ?_
                            refine g_iconst (n := 174) X dX12_plan_173 rfl ?_
                            refine g_istore (n := 176) (L' := [(7, gJ 0), (6, gJ 1), (0, gA n0 190), (1, gJ a), (4, gJ v91439), (5, gJ v91440)]) X dX12_plan_174 (by decide) rfl rfl ?_
                            have j96184 : ∀ (N96221 : Nat) (v96181 v96182 : Int) (M96183 : gM) , (0 ≤ v96181 ∧ v96181 ≤ 1) → (0 ≤ v96182 ∧ v96182 ≤ 3) → gI sz M96183 → gC sz M96183 → gFr 3559081726569396693205254144 M91441 M96183 → (∀ b : Int, 0 ≤ b → b < 25301 → M96183 191 b = M91441 191 b) → (3 - v96182).toNat < N96221 → G p l e R_X12_plan s m args below meth cd n0 D cA 8 Q 0 0 M96183 sz 176 [(0, gA n0 190), (1, gJ a), (4, gJ v91439), (5, gJ v91440), (6, gJ v96181), (7, gJ v96182)] [] := by
                              intro N96221; induction N96221 with
                              | zero => intro v96181 v96182 M96183 rv96181 rv96182 IM96183 CM96183 FM96183 hE176 hm96223; exfalso; omega
                              | succ N96221 ih96222 =>
                                intro v96181 v96182 M96183 rv96181 rv96182 IM96183 CM96183 FM96183 hE176 hm96223
                                refine g_iload (n := 178) X 5 dX12_plan_176 rfl rfl ?_
                                refine g_iconst (n := 179) X dX12_plan_178 rfl ?_
                                refine g_icmp_ge (n := 182) (tgt := 225) X dX12_plan_179 (by decide) (by omega) (by omega) rfl (fun c96224 => ?_) (fun c96224 => ?_)
                                · refine g_iload (n := 227) X 4 dX12_plan_225 rfl rfl ?_
                                  refine g_if_eq (n := 230) (tgt := 235) X dX12_plan_227 (by decide) (by omega) rfl (fun c96225 => ?_) (fun c96225 => ?_)
                                  · refine g_iload (n := 237) X 2 dX12_plan_235 rfl rfl ?_
                                    refine g_istore (n := 239) (L' := [(4, gJ v91439), (0, gA n0 190), (1, gJ a), (5, gJ v91440), (6, gJ v96181), (7, gJ v96182)]) X dX12_plan_237 (by decide) rfl rfl ?_
                                    refine g_iinc (n := 242) (w := v91440 + 1) (L' := [(5, gJ (v91440 + 1)), (4, gJ v91439), (0, gA n0 190), (1, gJ a), (6, gJ v96181), (7, gJ v96182)]) X 3 dX12_plan_239 rfl rfl (by decide) rfl rfl ?_
                                    refine g_goto (tgt := 103) X dX12_plan_242 (by decide) ?_
                                    refine G.sub (L' := [(0, gA n0 190), (1, gJ a), (4, gJ v91439), (5, gJ (v91440 + 1))]) [2, 3, 1, 0] rfl ?_
                                    exact ih96017 v91439 (v91440 + 1) M96183 (by omega) (by omega) IM96183 CM96183 (gFr.c (gFr.c gFr.rf FM91441 rfl) FM96183 rfl) (fun b h0 h1 => ((hE176 b h0 h1).trans ((hE103 b h0 h1).trans rfl))) (by omega)
                                  · refine g_iload (n := 232) X 3 dX12_plan_230 rfl rfl ?_
                                    refine g_goto (tgt := 237) X dX12_plan_232 (by decide) ?_
                                    refine g_istore (n := 239) (L' := [(4, gJ v91440), (0, gA n0 190), (1, gJ a), (5, gJ v91440), (6, gJ v96181), (7, gJ v96182)]) X dX12_plan_237 (by decide) rfl rfl ?_
                                    refine g_iinc (n := 242) (w := v91440 + 1) (L' := [(5, gJ (v91440 + 1)), (4, gJ v91440), (0, gA n0 190), (1, gJ a), (6, gJ v96181), (7, gJ v96182)]) X 3 dX12_plan_239 rfl rfl (by decide) rfl rfl ?_
                                    refine g_goto (tgt := 103) X dX12_plan_242 (by decide) ?_
                                    refine G.sub (L' := [(0, gA n0 190), (1, gJ a), (4, gJ v91440), (5, gJ (v91440 + 1))]) [2, 3, 1, 0] rfl ?_
                                    exact ih96017 v91440 (v91440 + 1) M96183 (by omega) (by omega) IM96183 CM96183 (gFr.c (gFr.c gFr.rf FM91441 rfl) FM96183 rfl) (fun b h0 h1 => ((hE176 b h0 h1).trans ((hE103 b h0 h1).trans rfl))) (by omega)
                                · refine g_iload (n := 184) X 4 dX12_plan_182 rfl rfl ?_
                                  refine g_if_eq (n := 187) (tgt := 225) X dX12_plan_184 (by decide) (by omega) rfl (fun c96226 => ?_) (fun c96226 => ?_)
                                  · refine g_iload (n := 227) X 4 dX12_plan_225 rfl rfl ?_
                                    refine g_if_eq (n := 230) (tgt := 235) X dX12_plan_227 (by decide) (by omega) rfl (fun c96227 => ?_) (fun c96227 => by exfalso; omega)
                                    refine g_iload (n := 237) X 2 dX12_plan_235 rfl rfl ?_
                                    refine g_istore (n := 239) (L' := [(4, gJ v91439), (0, gA n0 190), (1, gJ a), (5, gJ v91440), (6, gJ v96181), (7, gJ v96182)]) X dX12_plan_237 (by decide) rfl rfl ?_
                                    refine g_iinc (n := 242) (w := v91440 + 1) (L' := [(5, gJ (v91440 + 1)), (4, gJ v91439), (0, gA n0 190), (1, gJ a), (6, gJ v96181), (7, gJ v96182)]) X 3 dX12_plan_239 rfl rfl (by decide) rfl rfl ?_
                                    refine g_goto (tgt := 103) X dX12_plan_242 (by decide) ?_
                                    refine G.sub (L' := [(0, gA n0 190), (1, gJ a), (4, gJ v91439), (5, gJ (v91440 + 1))]) [2, 3, 1, 0] rfl ?_
                                    exact ih96017 v91439 (v91440 + 1) M96183 (by omega) (by omega) IM96183 CM96183 (gFr.c (gFr.c gFr.rf FM91441 rfl) FM96183 rfl) (fun b h0 h1 => ((hE176 b h0 h1).trans ((hE103 b h0 h1).trans rfl))) (by omega)
                                  · refine g_aload_n (n := 188) X 0 dX12_plan_187 rfl rfl rfl ?_
                                    refine gg_12_1 (n := 191) (z := 191) X (by decide) (gsz hsz (by decide)) lay_190 kw_6_27 dX12_plan_188 rfl (rf_190_1 IM96183 (gsz hsz (by decide))) (by decide) ?_
                                    refine g_sipush (n := 194) X dX12_plan_191 (by decide +kernel) rfl ?_
                                    refine g_iload (n := 196) X 5 dX12_plan_194 rfl rfl ?_
                                    refine g_iadd (n := 197) (z := v96182 + 2580) X dX12_plan_196 (by omega) rfl ?_
                                    obtain ⟨v96228, hv96228, rv96228⟩ := gRd IM96183 (by decide) (gsz hsz (by decide)) (rs_FMANY (k := v96182 + 2580) (by omega)).1
                                    refine g_iald2 (n := 198) (v := v96228) X (by decide) (gsz hsz (by decide)) lay_191 (by omega) (by omega) (by decide) dX12_plan_197 rfl hv96228 ?_
                                    refine g_if_eq (n := 201) (tgt := 212) X dX12_plan_198 (by decide) (by omega) rfl (fun c96229 => ?_) (fun c96229 => ?_)
                                    · refine g_iconst (n := 213) X dX12_plan_212 rfl ?_
                                      refine g_goto (tgt := 217) X dX12_plan_213 (by decide) ?_
                                      refine g_istore (n := 219) (L' := [(6, gJ 1), (0, gA n0 190), (1, gJ a), (4, gJ v91439), (5, gJ v91440), (7, gJ v96182)]) X dX12_plan_217 (by decide) rfl rfl ?_
                                      refine g_iinc (n := 222) (w := v96182 + 1) (L' := [(7, gJ (v96182 + 1)), (6, gJ 1), (0, gA n0 190), (1, gJ a), (4, gJ v91439), (5, gJ v91440)]) X 5 dX12_plan_219 rfl rfl (by decide) rfl rfl ?_
                                      refine g_goto (tgt := 176) X dX12_plan_222 (by decide) ?_
                                      refine G.sub (L' := [(0, gA n0 190), (1, gJ a), (4, gJ v91439), (5, gJ v91440), (6, gJ 1), (7, gJ (v96182 + 1))]) [2, 3, 4, 5, 1, 0] rfl ?_
                                      exact ih96222 1 (v96182 + 1) M96183 (by omega) (by omega) IM96183 CM96183 (gFr.c gFr.rf FM96183 rfl) (fun b h0 h1 => ((hE176 b h0 h1).trans rfl)) (by omega)
                                    · refine g_aload_n (n := 202) X 0 dX12_plan_201 rfl rfl rfl ?_
                                      refine g_iload (n := 204) X 3 dX12_plan_202 rfl rfl ?_
                                      refine g_iload (n := 206) X 5 dX12_plan_204 rfl rfl ?_
                                      have hfit := (hbeyond.resolve_left (by omega)) v96182 (by omega) (by omega)
                                      rw [← ((fun b h0 h1 => ((hE176 b h0 h1).trans ((hE103 b h0 h1).trans rfl))) : ∀ b : Int, 0 ≤ b → b < 25301 → M96183 191 b = M 191 b) 0 (by decide) (by decide), ← ((fun b h0 h1 => ((hE176 b h0 h1).trans ((hE103 b h0 h1).trans rfl))) : ∀ b : Int, 0 ≤ b → b < 25301 → M96183 191 b = M 191 b) (v96182 + 2580) (by omega) (by omega)] at hfit
                                      refine g_callVi (n := 209) (As := [gJ v91440, gJ v96182]) (rest := []) (cs1 := 0) (ss1 := 0) X (s_X12_isWell v91440 (by omega) v96182 (by omega) hsz IM96183 CM96183 (gW.eq (gW.eq W I ⟨by decide, gsz hsz (by decide)⟩ (fun _ => rfl) hE103) IM91441 ⟨by decide, gsz hsz (by decide)⟩ (fun _ => rfl) hE176) (by have q0 := ((hE176 0 (by omega) (by omega)).trans ((hE103 0 (by omega) (by omega)).trans hv1)); have q1 := hv96228; omega)) okX12_isWell kw_8_9 ⟨kw_8_11, kw_0_88⟩ ⟨rfl, rfl⟩ ⟨Nat.le_of_ble_eq_true rfl, Nat.le_of_ble_eq_true rfl⟩ rfl (by decide) (gsz hsz (by decide)) lay_190 rfl rfl (Nat.le_of_ble_eq_true rfl) ⟨Nat.le_of_ble_eq_true rfl, Nat.le_of_ble_eq_true rfl⟩ rfl rfl dX12_plan_206 rfl (fun v96230 M96231 P96232 => ?_)
                                      obtain ⟨rv96230, IM96231, CM96231, FM96231, xM96231⟩ := P96232
                                      refine g_if_eq (n := 212) (tgt := 216) X dX12_plan_209 (by decide) (by omega) rfl (fun c96233 => ?_) (fun c96233 => ?_)
                                      · refine g_iconst (n := 217) X dX12_plan_216 rfl ?_
                                        refine g_istore (n := 219) (L' := [(6, gJ 0), (0, gA n0 190), (1, gJ a), (4, gJ v91439), (5, gJ v91440), (7, gJ v96182)]) X dX12_plan_217 (by decide) rfl rfl ?_
                                        refine g_iinc (n := 222) (w := v96182 + 1) (L' := [(7, gJ (v96182 + 1)), (6, gJ 0), (0, gA n0 190), (1, gJ a), (4, gJ v91439), (5, gJ v91440)]) X 5 dX12_plan_219 rfl rfl (by decide) rfl rfl ?_
                                        refine g_goto (tgt := 176) X dX12_plan_222 (by decide) ?_
                                        refine G.sub (L' := [(0, gA n0 190), (1, gJ a), (4, gJ v91439), (5, gJ v91440), (6, gJ 0), (7, gJ (v96182 + 1))]) [2, 3, 4, 5, 1, 0] rfl ?_
                                        exact ih96222 0 (v96182 + 1) M96231 (by omega) (by omega) IM96231 CM96231 (gFr.c (gFr.c gFr.rf FM96183 rfl) FM96231 rfl) (fun b h0 h1 => ((xM96231 b h0 h1).trans ((hE176 b h0 h1).trans rfl))) (by omega)
                                      · refine g_iconst (n := 213) X dX12_plan_212 rfl ?_
                                        refine g_goto (tgt := 217) X dX12_plan_213 (by decide) ?_
                                        refine g_istore (n := 219) (L' := [(6, gJ 1), (0, gA n0 190), (1, gJ a), (4, gJ v91439), (5, gJ v91440), (7, gJ v96182)]) X dX12_plan_217 (by decide) rfl rfl ?_
                                        refine g_iinc (n := 222) (w := v96182 + 1) (L' := [(7, gJ (v96182 + 1)), (6, gJ 1), (0, gA n0 190), (1, gJ a), (4, gJ v91439), (5, gJ v91440)]) X 5 dX12_plan_219 rfl rfl (by decide) rfl rfl ?_
                                        refine g_goto (tgt := 176) X dX12_plan_222 (by decide) ?_
                                        refine G.sub (L' := [(0, gA n0 190), (1, gJ a), (4, gJ v91439), (5, gJ v91440), (6, gJ 1), (7, gJ (v96182 + 1))]) [2, 3, 4, 5, 1, 0] rfl ?_
                                        exact ih96222 1 (v96182 + 1) M96231 (by omega) (by omega) IM96231 CM96231 (gFr.c (gFr.c gFr.rf FM96183 rfl) FM96231 rfl) (fun b h0 h1 => ((xM96231 b h0 h1).trans ((hE176 b h0 h1).trans rfl))) (by omega)
                            refine G.sub (L' := [(0, gA n0 190), (1, gJ a), (4, gJ v91439), (5, gJ v91440), (6, gJ 1), (7, gJ 0)]) [2, 3, 4, 5, 1, 0] rfl ?_
                            exact j96184 _ 1 0 M91441 (by omega) (by omega) IM91441 CM91441 gFr.rf (fun b h0 h1 => rfl) (Nat.lt_succ_self _)
              refine G.sub (L' := [(0, gA n0 190), (1, gJ a), (4, gJ (-1)), (5, gJ 0)]) [2, 3, 1, 0] rfl ?_
              exact j91442 _ (-1) 0 M (by omega) (by omega) I C gFr.rf (fun b h0 h1 => rfl) (Nat.lt_succ_self _)
            · refine g_bipush (n := 96) X dX12_plan_94 (by decide +kernel) rfl ?_
              exact hq _ _ _ _ dX12_plan_96 ⟨by omega, I, C, gFr.rf, (fun b _ _ => rfl)⟩
        · refine g_iload_n (n := 25) X 2 dX12_plan_24 rfl rfl rfl ?_
          refine g_aload_n (n := 26) X 0 dX12_plan_25 rfl rfl rfl ?_
          refine gg_12_1 (n := 29) (z := 191) X (by decide) (gsz hsz (by decide)) lay_190 kw_6_27 dX12_plan_26 rfl (rf_190_1 I (gsz hsz (by decide))) (by decide) ?_
          refine g_sipush (n := 32) X dX12_plan_29 (by decide +kernel) rfl ?_
          refine g_iload (n := 34) X 4 dX12_plan_32 rfl rfl ?_
          refine g_iadd (n := 35) (z := v8 + 2580) X dX12_plan_34 (by omega) rfl ?_
          obtain ⟨v96234, hv96234, rv96234⟩ := gRd I (by decide) (gsz hsz (by decide)) (rs_FMANY (k := v8 + 2580) (by omega)).1
          refine g_iald2 (n := 36) (v := v96234) X (by decide) (gsz hsz (by decide)) lay_191 (by omega) (by omega) (by decide) dX12_plan_35 rfl hv96234 ?_
          refine g_if_le (n := 39) (tgt := 43) X dX12_plan_36 (by decide) (by omega) rfl (fun c96235 => ?_) (fun c96235 => ?_)
          · refine g_iconst (n := 44) X dX12_plan_43 rfl ?_
            refine g_iadd (n := 45) (z := v6) X dX12_plan_44 (by omega) rfl ?_
            refine g_istore_n (n := 46) (L' := [(2, gJ v6), (0, gA n0 190), (1, gJ a), (3, gJ v7), (4, gJ v8)]) X dX12_plan_45 rfl (by decide) rfl rfl ?_
            refine g_iload_n (n := 47) X 3 dX12_plan_46 rfl rfl rfl ?_
            refine g_if_ne (n := 50) (tgt := 74) X dX12_plan_47 (by decide) (by omega) rfl (fun c96236 => ?_) (fun c96236 => ?_)
            · refine g_iconst (n := 75) X dX12_plan_74 rfl ?_
              refine g_goto (tgt := 79) X dX12_plan_75 (by decide) ?_
              refine g_istore_n (n := 80) (L' := [(3, gJ 1), (2, gJ v6), (0, gA n0 190), (1, gJ a), (4, gJ v8)]) X dX12_plan_79 rfl (by decide) rfl rfl ?_
              refine g_iinc (n := 83) (w := v8 + 1) (L' := [(4, gJ (v8 + 1)), (3, gJ 1), (2, gJ v6), (0, gA n0 190), (1, gJ a)]) X 4 dX12_plan_80 rfl rfl (by decide) rfl rfl ?_
              refine g_goto (tgt := 18) X dX12_plan_83 (by decide) ?_
              refine G.sub (L' := [(0, gA n0 190), (1, gJ a), (2, gJ v6), (3, gJ 1), (4, gJ (v8 + 1))]) [3, 4, 2, 1, 0] rfl ?_
              exact ih91427 v6 1 (v8 + 1) (by omega) (by omega) (by omega) (Or.inl rfl) (by omega)
            · refine g_aload_n (n := 51) X 1 dX12_plan_50 rfl rfl rfl ?_
              refine gg_12_1 (n := 54) (z := 191) X (by decide) (gsz hsz (by decide)) lay_190 kw_6_27 dX12_plan_51 rfl (rf_190_1 I (gsz hsz (by decide))) (by decide) ?_
              refine g_iconst (n := 55) X dX12_plan_54 rfl ?_
              refine g_iald2 (n := 56) (v := v1) X (by decide) (gsz hsz (by decide)) lay_191 (by omega) (by omega) (by decide) dX12_plan_55 rfl hv1 ?_
              refine g_aload_n (n := 57) X 1 dX12_plan_56 rfl rfl rfl ?_
              refine gg_12_1 (n := 60) (z := 191) X (by decide) (gsz hsz (by decide)) lay_190 kw_6_27 dX12_plan_57 rfl (rf_190_1 I (gsz hsz (by decide))) (by decide) ?_
              refine g_sipush (n := 63) X dX12_plan_60 (by decide +kernel) rfl ?_
              refine g_iload (n := 65) X 4 dX12_plan_63 rfl rfl ?_
              refine g_iadd (n := 66) (z := v8 + 2580) X dX12_plan_65 (by omega) rfl ?_
              refine g_iald2 (n := 67) (v := v96234) X (by decide) (gsz hsz (by decide)) lay_191 (by omega) (by omega) (by decide) dX12_plan_66 rfl hv96234 ?_
              refine g_iadd (n := 68) (z := v1 + v96234) X dX12_plan_67 rfl rfl ?_
              refine g_sipush (n := 71) X dX12_plan_68 (by decide +kernel) rfl ?_
              refine g_icmp_le (n := 74) (tgt := 78) X dX12_plan_71 (by decide) (by omega) (by omega) rfl (fun c96237 => ?_) (fun c96237 => by exfalso; omega)
              refine g_iconst (n := 79) X dX12_plan_78 rfl ?_
              refine g_istore_n (n := 80) (L' := [(3, gJ 0), (2, gJ v6), (0, gA n0 190), (1, gJ a), (4, gJ v8)]) X dX12_plan_79 rfl (by decide) rfl rfl ?_
              refine g_iinc (n := 83) (w := v8 + 1) (L' := [(4, gJ (v8 + 1)), (3, gJ 0), (2, gJ v6), (0, gA n0 190), (1, gJ a)]) X 4 dX12_plan_80 rfl rfl (by decide) rfl rfl ?_
              refine g_goto (tgt := 18) X dX12_plan_83 (by decide) ?_
              refine G.sub (L' := [(0, gA n0 190), (1, gJ a), (2, gJ v6), (3, gJ 0), (4, gJ (v8 + 1))]) [3, 4, 2, 1, 0] rfl ?_
              exact ih91427 v6 0 (v8 + 1) (by omega) (by omega) (by omega) (Or.inr (fun q h0 h1 => if g : q = v8 then (by rw [g, hv96234, hv1]; omega) else (hb.resolve_left (by omega)) q h0 (by omega))) (by omega)
          · refine g_iconst (n := 40) X dX12_plan_39 rfl ?_
            refine g_goto (tgt := 44) X dX12_plan_40 (by decide) ?_
            refine g_iaddA (n := 45) X dX12_plan_44 rfl (fun v96238 rv96238 xv96238 => ?_)
            clear xv96238
            refine g_istore_n (n := 46) (L' := [(2, gJ v96238), (0, gA n0 190), (1, gJ a), (3, gJ v7), (4, gJ v8)]) X dX12_plan_45 rfl (by decide) rfl rfl ?_
            refine g_iload_n (n := 47) X 3 dX12_plan_46 rfl rfl rfl ?_
            refine g_if_ne (n := 50) (tgt := 74) X dX12_plan_47 (by decide) (by omega) rfl (fun c96239 => ?_) (fun c96239 => ?_)
            · refine g_iconst (n := 75) X dX12_plan_74 rfl ?_
              refine g_goto (tgt := 79) X dX12_plan_75 (by decide) ?_
              refine g_istore_n (n := 80) (L' := [(3, gJ 1), (2, gJ v96238), (0, gA n0 190), (1, gJ a), (4, gJ v8)]) X dX12_plan_79 rfl (by decide) rfl rfl ?_
              refine g_iinc (n := 83) (w := v8 + 1) (L' := [(4, gJ (v8 + 1)), (3, gJ 1), (2, gJ v96238), (0, gA n0 190), (1, gJ a)]) X 4 dX12_plan_80 rfl rfl (by decide) rfl rfl ?_
              refine g_goto (tgt := 18) X dX12_plan_83 (by decide) ?_
              refine G.sub (L' := [(0, gA n0 190), (1, gJ a), (2, gJ v96238), (3, gJ 1), (4, gJ (v8 + 1))]) [3, 4, 2, 1, 0] rfl ?_
              exact ih91427 v96238 1 (v8 + 1) (by omega) (by omega) (by omega) (Or.inl rfl) (by omega)
            · refine g_aload_n (n := 51) X 1 dX12_plan_50 rfl rfl rfl ?_
              refine gg_12_1 (n := 54) (z := 191) X (by decide) (gsz hsz (by decide)) lay_190 kw_6_27 dX12_plan_51 rfl (rf_190_1 I (gsz hsz (by decide))) (by decide) ?_
              refine g_iconst (n := 55) X dX12_plan_54 rfl ?_
              refine g_iald2 (n := 56) (v := v1) X (by decide) (gsz hsz (by decide)) lay_191 (by omega) (by omega) (by decide) dX12_plan_55 rfl hv1 ?_
              refine g_aload_n (n := 57) X 1 dX12_plan_56 rfl rfl rfl ?_
              refine gg_12_1 (n := 60) (z := 191) X (by decide) (gsz hsz (by decide)) lay_190 kw_6_27 dX12_plan_57 rfl (rf_190_1 I (gsz hsz (by decide))) (by decide) ?_
              refine g_sipush (n := 63) X dX12_plan_60 (by decide +kernel) rfl ?_
              refine g_iload (n := 65) X 4 dX12_plan_63 rfl rfl ?_
              refine g_iadd (n := 66) (z := v8 + 2580) X dX12_plan_65 (by omega) rfl ?_
              refine g_iald2 (n := 67) (v := v96234) X (by decide) (gsz hsz (by decide)) lay_191 (by omega) (by omega) (by decide) dX12_plan_66 rfl hv96234 ?_
              refine g_iadd (n := 68) (z := v1 + v96234) X dX12_plan_67 rfl rfl ?_
              refine g_sipush (n := 71) X dX12_plan_68 (by decide +kernel) rfl ?_
              refine g_icmp_le (n := 74) (tgt := 78) X dX12_plan_71 (by decide) (by omega) (by omega) rfl (fun c96240 => ?_) (fun c96240 => ?_)
              · refine g_iconst (n := 79) X dX12_plan_78 rfl ?_
                refine g_istore_n (n := 80) (L' := [(3, gJ 0), (2, gJ v96238), (0, gA n0 190), (1, gJ a), (4, gJ v8)]) X dX12_plan_79 rfl (by decide) rfl rfl ?_
                refine g_iinc (n := 83) (w := v8 + 1) (L' := [(4, gJ (v8 + 1)), (3, gJ 0), (2, gJ v96238), (0, gA n0 190), (1, gJ a)]) X 4 dX12_plan_80 rfl rfl (by decide) rfl rfl ?_
                refine g_goto (tgt := 18) X dX12_plan_83 (by decide) ?_
                refine G.sub (L' := [(0, gA n0 190), (1, gJ a), (2, gJ v96238), (3, gJ 0), (4, gJ (v8 + 1))]) [3, 4, 2, 1, 0] rfl ?_
                exact ih91427 v96238 0 (v8 + 1) (by omega) (by omega) (by omega) (Or.inr (fun q h0 h1 => if g : q = v8 then (by rw [g, hv96234, hv1]; omega) else (hb.resolve_left (by omega)) q h0 (by omega))) (by omega)
              · refine g_iconst (n := 75) X dX12_plan_74 rfl ?_
                refine g_goto (tgt := 79) X dX12_plan_75 (by decide) ?_
                refine g_istore_n (n := 80) (L' := [(3, gJ 1), (2, gJ v96238), (0, gA n0 190), (1, gJ a), (4, gJ v8)]) X dX12_plan_79 rfl (by decide) rfl rfl ?_
                refine g_iinc (n := 83) (w := v8 + 1) (L' := [(4, gJ (v8 + 1)), (3, gJ 1), (2, gJ v96238), (0, gA n0 190), (1, gJ a)]) X 4 dX12_plan_80 rfl rfl (by decide) rfl rfl ?_
                refine g_goto (tgt := 18) X dX12_plan_83 (by decide) ?_
                refine G.sub (L' := [(0, gA n0 190), (1, gJ a), (2, gJ v96238), (3, gJ 1), (4, gJ (v8 + 1))]) [3, 4, 2, 1, 0] rfl ?_
                exact ih91427 v96238 1 (v8 + 1) (by omega) (by omega) (by omega) (Or.inl rfl) (by omega)
    refine G.sub (L' := [(0, gA n0 190), (1, gJ a), (2, gJ 0), (3, gJ 0), (4, gJ 0)]) [3, 4, 2, 1, 0] rfl ?_
    exact j10 _ 0 0 0 (by omega) (by omega) (by omega) (Or.inr (fun q h0 h1 => by exfalso; omega)) (Nat.lt_succ_self _)
  · refine g_iconst (n := 10) X dX12_plan_9 rfl ?_
    exact hq _ _ _ _ dX12_plan_10 ⟨by omega, I, C, gFr.rf, (fun b _ _ => rfl)⟩
theorem dX12_tried_0 : decode cX12_tried 0 = .ok (.iload_n 1, 1) := dc_27 (by decide +kernel)
theorem dX12_tried_1 : decode cX12_tried 1 = .ok (.iconst 0, 1) := dc_3 (by decide +kernel)
theorem dX12_tried_2 : decode cX12_tried 2 = .ok (.iconst 2, 1) := dc_5 (by decide +kernel)
theorem dX12_tried_3 : decode cX12_tried 3 = .ok (.invokestatic 64, 3) := dc_184 0 64 (by decide +kernel)
theorem dX12_tried_6 : decode cX12_tried 6 = .ok (.ifCond .eq 25, 3) := dc_153 0 25 25 (by decide +kernel)
theorem dX12_tried_31 : decode cX12_tried 31 = .ok (.iconst (-1), 1) := dc_2 (by decide +kernel)
theorem dX12_tried_32 : decode cX12_tried 32 = .ok (.ireturn, 1) := dc_172 (by decide +kernel)
theorem dX12_tried_9 : decode cX12_tried 9 = .ok (.aload_n 0, 1) := dc_42 (by decide +kernel)
theorem dX12_tried_10 : decode cX12_tried 10 = .ok (.getfield 7, 3) := dc_180 0 7 (by decide +kernel)
theorem dX12_tried_13 : decode cX12_tried 13 = .ok (.sipush 2580, 3) := dc_17 10 20 2580 (by decide +kernel)
theorem dX12_tried_16 : decode cX12_tried 16 = .ok (.iload_n 1, 1) := dc_27 (by decide +kernel)
theorem dX12_tried_17 : decode cX12_tried 17 = .ok (.iadd, 1) := dc_96 (by decide +kernel)
theorem dX12_tried_18 : decode cX12_tried 18 = .ok (.iaload, 1) := dc_46 (by decide +kernel)
theorem dX12_tried_19 : decode cX12_tried 19 = .ok (.ifCond .eq 12, 3) := dc_153 0 12 12 (by decide +kernel)
theorem dX12_tried_22 : decode cX12_tried 22 = .ok (.iload_n 2, 1) := dc_28 (by decide +kernel)
theorem dX12_tried_23 : decode cX12_tried 23 = .ok (.iconst 0, 1) := dc_3 (by decide +kernel)
theorem dX12_tried_24 : decode cX12_tried 24 = .ok (.iconst 2, 1) := dc_5 (by decide +kernel)
theorem dX12_tried_25 : decode cX12_tried 25 = .ok (.invokestatic 64, 3) := dc_184 0 64 (by decide +kernel)
theorem dX12_tried_28 : decode cX12_tried 28 = .ok (.ifCond .ne 5, 3) := dc_154 0 5 5 (by decide +kernel)
theorem dX12_tried_33 : decode cX12_tried 33 = .ok (.aload_n 0, 1) := dc_42 (by decide +kernel)
theorem dX12_tried_34 : decode cX12_tried 34 = .ok (.getfield 7, 3) := dc_180 0 7 (by decide +kernel)
theorem dX12_tried_37 : decode cX12_tried 37 = .ok (.iconst 0, 1) := dc_3 (by decide +kernel)
theorem dX12_tried_38 : decode cX12_tried 38 = .ok (.iaload, 1) := dc_46 (by decide +kernel)
theorem dX12_tried_39 : decode cX12_tried 39 = .ok (.aload_n 0, 1) := dc_42 (by decide +kernel)
theorem dX12_tried_40 : decode cX12_tried 40 = .ok (.getfield 7, 3) := dc_180 0 7 (by decide +kernel)
theorem dX12_tried_43 : decode cX12_tried 43 = .ok (.sipush 2580, 3) := dc_17 10 20 2580 (by decide +kernel)
theorem dX12_tried_46 : decode cX12_tried 46 = .ok (.iload_n 1, 1) := dc_27 (by decide +kernel)
theorem dX12_tried_47 : decode cX12_tried 47 = .ok (.iadd, 1) := dc_96 (by decide +kernel)
theorem dX12_tried_48 : decode cX12_tried 48 = .ok (.iaload, 1) := dc_46 (by decide +kernel)
theorem dX12_tried_49 : decode cX12_tried 49 = .ok (.iadd, 1) := dc_96 (by decide +kernel)
theorem dX12_tried_50 : decode cX12_tried 50 = .ok (.sipush 300, 3) := dc_17 1 44 300 (by decide +kernel)
theorem dX12_tried_53 : decode cX12_tried 53 = .ok (.if_icmp .le 6, 3) := dc_164 0 6 6 (by decide +kernel)
theorem dX12_tried_59 : decode cX12_tried 59 = .ok (.aload_n 0, 1) := dc_42 (by decide +kernel)
theorem dX12_tried_60 : decode cX12_tried 60 = .ok (.aload_n 0, 1) := dc_42 (by decide +kernel)
theorem dX12_tried_61 : decode cX12_tried 61 = .ok (.getfield 13, 3) := dc_180 0 13 (by decide +kernel)
theorem dX12_tried_64 : decode cX12_tried 64 = .ok (.aload_n 0, 1) := dc_42 (by decide +kernel)
theorem dX12_tried_65 : decode cX12_tried 65 = .ok (.getfield 7, 3) := dc_180 0 7 (by decide +kernel)
theorem dX12_tried_68 : decode cX12_tried 68 = .ok (.invokevirtual 296, 3) := dc_182 1 40 (by decide +kernel)
theorem dX12_tried_71 : decode cX12_tried 71 = .ok (.aload_n 0, 1) := dc_42 (by decide +kernel)
theorem dX12_tried_72 : decode cX12_tried 72 = .ok (.getfield 7, 3) := dc_180 0 7 (by decide +kernel)
theorem dX12_tried_75 : decode cX12_tried 75 = .ok (.iconst 4, 1) := dc_7 (by decide +kernel)
theorem dX12_tried_76 : decode cX12_tried 76 = .ok (.iaload, 1) := dc_46 (by decide +kernel)
theorem dX12_tried_77 : decode cX12_tried 77 = .ok (.istore_n 3, 1) := dc_62 (by decide +kernel)
theorem dX12_tried_78 : decode cX12_tried 78 = .ok (.aload_n 0, 1) := dc_42 (by decide +kernel)
theorem dX12_tried_79 : decode cX12_tried 79 = .ok (.iload_n 3, 1) := dc_29 (by decide +kernel)
theorem dX12_tried_80 : decode cX12_tried 80 = .ok (.aload_n 0, 1) := dc_42 (by decide +kernel)
theorem dX12_tried_81 : decode cX12_tried 81 = .ok (.getfield 7, 3) := dc_180 0 7 (by decide +kernel)
theorem dX12_tried_84 : decode cX12_tried 84 = .ok (.iconst 0, 1) := dc_3 (by decide +kernel)
theorem dX12_tried_85 : decode cX12_tried 85 = .ok (.iaload, 1) := dc_46 (by decide +kernel)
theorem dX12_tried_86 : decode cX12_tried 86 = .ok (.invokevirtual 223, 3) := dc_182 0 223 (by decide +kernel)
theorem dX12_tried_89 : decode cX12_tried 89 = .ok (.istore 4, 2) := dc_54 4 (by decide +kernel)
theorem dX12_tried_91 : decode cX12_tried 91 = .ok (.aload_n 0, 1) := dc_42 (by decide +kernel)
theorem dX12_tried_92 : decode cX12_tried 92 = .ok (.getfield 129, 3) := dc_180 0 129 (by decide +kernel)
theorem dX12_tried_95 : decode cX12_tried 95 = .ok (.istore 5, 2) := dc_54 5 (by decide +kernel)
theorem dX12_tried_97 : decode cX12_tried 97 = .ok (.iconst 0, 1) := dc_3 (by decide +kernel)
theorem dX12_tried_98 : decode cX12_tried 98 = .ok (.istore 6, 2) := dc_54 6 (by decide +kernel)
theorem dX12_tried_100 : decode cX12_tried 100 = .ok (.iload 4, 2) := dc_21 4 (by decide +kernel)
theorem dX12_tried_102 : decode cX12_tried 102 = .ok (.ifCond .eq 105, 3) := dc_153 0 105 105 (by decide +kernel)
theorem dX12_tried_207 : decode cX12_tried 207 = .ok (.aload_n 0, 1) := dc_42 (by decide +kernel)
theorem dX12_tried_208 : decode cX12_tried 208 = .ok (.aload_n 0, 1) := dc_42 (by decide +kernel)
theorem dX12_tried_209 : decode cX12_tried 209 = .ok (.getfield 7, 3) := dc_180 0 7 (by decide +kernel)
theorem dX12_tried_212 : decode cX12_tried 212 = .ok (.aload_n 0, 1) := dc_42 (by decide +kernel)
theorem dX12_tried_213 : decode cX12_tried 213 = .ok (.getfield 13, 3) := dc_180 0 13 (by decide +kernel)
theorem dX12_tried_216 : decode cX12_tried 216 = .ok (.invokevirtual 296, 3) := dc_182 1 40 (by decide +kernel)
theorem dX12_tried_219 : decode cX12_tried 219 = .ok (.aload_n 0, 1) := dc_42 (by decide +kernel)
theorem dX12_tried_220 : decode cX12_tried 220 = .ok (.dup, 1) := dc_89 (by decide +kernel)
theorem dX12_tried_221 : decode cX12_tried 221 = .ok (.getfield 44, 3) := dc_180 0 44 (by decide +kernel)
theorem dX12_tried_224 : decode cX12_tried 224 = .ok (.iconst 1, 1) := dc_4 (by decide +kernel)
theorem dX12_tried_225 : decode cX12_tried 225 = .ok (.iadd, 1) := dc_96 (by decide +kernel)
theorem dX12_tried_226 : decode cX12_tried 226 = .ok (.putfield 44, 3) := dc_181 0 44 (by decide +kernel)
theorem dX12_tried_229 : decode cX12_tried 229 = .ok (.aload_n 0, 1) := dc_42 (by decide +kernel)
theorem dX12_tried_230 : decode cX12_tried 230 = .ok (.getfield 7, 3) := dc_180 0 7 (by decide +kernel)
theorem dX12_tried_233 : decode cX12_tried 233 = .ok (.bipush 10, 2) := dc_16 10 10 (by decide +kernel)
theorem dX12_tried_235 : decode cX12_tried 235 = .ok (.iconst 0, 1) := dc_3 (by decide +kernel)
theorem dX12_tried_236 : decode cX12_tried 236 = .ok (.iastore, 1) := dc_79 (by decide +kernel)
theorem dX12_tried_237 : decode cX12_tried 237 = .ok (.iload 4, 2) := dc_21 4 (by decide +kernel)
theorem dX12_tried_239 : decode cX12_tried 239 = .ok (.ifCond .eq 8, 3) := dc_153 0 8 8 (by decide +kernel)
theorem dX12_tried_247 : decode cX12_tried 247 = .ok (.bipush (-10), 2) := dc_16 246 (-10) (by decide +kernel)
theorem dX12_tried_249 : decode cX12_tried 249 = .ok (.iload 5, 2) := dc_21 5 (by decide +kernel)
theorem dX12_tried_251 : decode cX12_tried 251 = .ok (.isub, 1) := dc_100 (by decide +kernel)
theorem dX12_tried_252 : decode cX12_tried 252 = .ok (.ireturn, 1) := dc_172 (by decide +kernel)
theorem dX12_tried_105 : decode cX12_tried 105 = .ok (.aload_n 0, 1) := dc_42 (by decide +kernel)
theorem dX12_tried_106 : decode cX12_tried 106 = .ok (.getfield 7, 3) := dc_180 0 7 (by decide +kernel)
theorem dX12_tried_109 : decode cX12_tried 109 = .ok (.iconst 4, 1) := dc_7 (by decide +kernel)
theorem dX12_tried_110 : decode cX12_tried 110 = .ok (.dup2, 1) := dc_92 (by decide +kernel)
theorem dX12_tried_111 : decode cX12_tried 111 = .ok (.iaload, 1) := dc_46 (by decide +kernel)
theorem dX12_tried_112 : decode cX12_tried 112 = .ok (.iconst 1, 1) := dc_4 (by decide +kernel)
theorem dX12_tried_113 : decode cX12_tried 113 = .ok (.iadd, 1) := dc_96 (by decide +kernel)
theorem dX12_tried_114 : decode cX12_tried 114 = .ok (.iastore, 1) := dc_79 (by decide +kernel)
theorem dX12_tried_115 : decode cX12_tried 115 = .ok (.aload_n 0, 1) := dc_42 (by decide +kernel)
theorem dX12_tried_116 : decode cX12_tried 116 = .ok (.dup, 1) := dc_89 (by decide +kernel)
theorem dX12_tried_117 : decode cX12_tried 117 = .ok (.getfield 44, 3) := dc_180 0 44 (by decide +kernel)
theorem dX12_tried_120 : decode cX12_tried 120 = .ok (.iconst 1, 1) := dc_4 (by decide +kernel)
theorem dX12_tried_121 : decode cX12_tried 121 = .ok (.iadd, 1) := dc_96 (by decide +kernel)
theorem dX12_tried_122 : decode cX12_tried 122 = .ok (.putfield 44, 3) := dc_181 0 44 (by decide +kernel)
theorem dX12_tried_125 : decode cX12_tried 125 = .ok (.aload_n 0, 1) := dc_42 (by decide +kernel)
theorem dX12_tried_126 : decode cX12_tried 126 = .ok (.getfield 7, 3) := dc_180 0 7 (by decide +kernel)
theorem dX12_tried_129 : decode cX12_tried 129 = .ok (.iconst 0, 1) := dc_3 (by decide +kernel)
theorem dX12_tried_130 : decode cX12_tried 130 = .ok (.iaload, 1) := dc_46 (by decide +kernel)
theorem dX12_tried_131 : decode cX12_tried 131 = .ok (.istore 7, 2) := dc_54 7 (by decide +kernel)
theorem dX12_tried_133 : decode cX12_tried 133 = .ok (.aload_n 0, 1) := dc_42 (by decide +kernel)
theorem dX12_tried_134 : decode cX12_tried 134 = .ok (.iload_n 1, 1) := dc_27 (by decide +kernel)
theorem dX12_tried_135 : decode cX12_tried 135 = .ok (.invokevirtual 303, 3) := dc_182 1 47 (by decide +kernel)
theorem dX12_tried_138 : decode cX12_tried 138 = .ok (.iload 7, 2) := dc_21 7 (by decide +kernel)
theorem dX12_tried_140 : decode cX12_tried 140 = .ok (.istore 8, 2) := dc_54 8 (by decide +kernel)
theorem dX12_tried_142 : decode cX12_tried 142 = .ok (.iload 8, 2) := dc_21 8 (by decide +kernel)
theorem dX12_tried_144 : decode cX12_tried 144 = .ok (.aload_n 0, 1) := dc_42 (by decide +kernel)
theorem dX12_tried_145 : decode cX12_tried 145 = .ok (.getfield 7, 3) := dc_180 0 7 (by decide +kernel)
theorem dX12_tried_148 : decode cX12_tried 148 = .ok (.iconst 0, 1) := dc_3 (by decide +kernel)
theorem dX12_tried_149 : decode cX12_tried 149 = .ok (.iaload, 1) := dc_46 (by decide +kernel)
theorem dX12_tried_150 : decode cX12_tried 150 = .ok (.if_icmp .ge 57, 3) := dc_162 0 57 57 (by decide +kernel)
theorem dX12_tried_242 : decode cX12_tried 242 = .ok (.iload 6, 2) := dc_21 6 (by decide +kernel)
theorem dX12_tried_244 : decode cX12_tried 244 = .ok (.goto 8, 3) := dc_167 0 8 8 (by decide +kernel)
theorem dX12_tried_153 : decode cX12_tried 153 = .ok (.iload 6, 2) := dc_21 6 (by decide +kernel)
theorem dX12_tried_155 : decode cX12_tried 155 = .ok (.iload_n 2, 1) := dc_28 (by decide +kernel)
theorem dX12_tried_156 : decode cX12_tried 156 = .ok (.ifCond .ne 17, 3) := dc_154 0 17 17 (by decide +kernel)
theorem dX12_tried_173 : decode cX12_tried 173 = .ok (.iload_n 2, 1) := dc_28 (by decide +kernel)
theorem dX12_tried_174 : decode cX12_tried 174 = .ok (.iconst 1, 1) := dc_4 (by decide +kernel)
theorem dX12_tried_175 : decode cX12_tried 175 = .ok (.if_icmp .ne 17, 3) := dc_160 0 17 17 (by decide +kernel)
theorem dX12_tried_192 : decode cX12_tried 192 = .ok (.aload_n 0, 1) := dc_42 (by decide +kernel)
theorem dX12_tried_193 : decode cX12_tried 193 = .ok (.iload 8, 2) := dc_21 8 (by decide +kernel)
theorem dX12_tried_195 : decode cX12_tried 195 = .ok (.invokevirtual 278, 3) := dc_182 1 22 (by decide +kernel)
theorem dX12_tried_198 : decode cX12_tried 198 = .ok (.iadd, 1) := dc_96 (by decide +kernel)
theorem dX12_tried_199 : decode cX12_tried 199 = .ok (.istore 6, 2) := dc_54 6 (by decide +kernel)
theorem dX12_tried_201 : decode cX12_tried 201 = .ok (.iinc 8 1, 3) := dc_132 8 1 1 (by decide +kernel)
theorem dX12_tried_204 : decode cX12_tried 204 = .ok (.goto (-62), 3) := dc_167 255 194 (-62) (by decide +kernel)
theorem dX12_tried_178 : decode cX12_tried 178 = .ok (.aload_n 0, 1) := dc_42 (by decide +kernel)
theorem dX12_tried_179 : decode cX12_tried 179 = .ok (.getfield 7, 3) := dc_180 0 7 (by decide +kernel)
theorem dX12_tried_182 : decode cX12_tried 182 = .ok (.sipush 3802, 3) := dc_17 14 218 3802 (by decide +kernel)
theorem dX12_tried_185 : decode cX12_tried 185 = .ok (.iload 8, 2) := dc_21 8 (by decide +kernel)
theorem dX12_tried_187 : decode cX12_tried 187 = .ok (.iadd, 1) := dc_96 (by decide +kernel)
theorem dX12_tried_188 : decode cX12_tried 188 = .ok (.iaload, 1) := dc_46 (by decide +kernel)
theorem dX12_tried_189 : decode cX12_tried 189 = .ok (.goto 9, 3) := dc_167 0 9 9 (by decide +kernel)
theorem dX12_tried_159 : decode cX12_tried 159 = .ok (.aload_n 0, 1) := dc_42 (by decide +kernel)
theorem dX12_tried_160 : decode cX12_tried 160 = .ok (.getfield 7, 3) := dc_180 0 7 (by decide +kernel)
theorem dX12_tried_163 : decode cX12_tried 163 = .ok (.sipush 4404, 3) := dc_17 17 52 4404 (by decide +kernel)
theorem dX12_tried_166 : decode cX12_tried 166 = .ok (.iload 8, 2) := dc_21 8 (by decide +kernel)
theorem dX12_tried_168 : decode cX12_tried 168 = .ok (.iadd, 1) := dc_96 (by decide +kernel)
theorem dX12_tried_169 : decode cX12_tried 169 = .ok (.iaload, 1) := dc_46 (by decide +kernel)
theorem dX12_tried_170 : decode cX12_tried 170 = .ok (.goto 28, 3) := dc_167 0 28 28 (by decide +kernel)
theorem dX12_tried_56 : decode cX12_tried 56 = .ok (.bipush (-3), 2) := dc_16 253 (-3) (by decide +kernel)
theorem dX12_tried_58 : decode cX12_tried 58 = .ok (.ireturn, 1) := dc_172 (by decide +kernel)
abbrev R_X12_tried : Room := { frames := 136, cells := 0, slots := 0, locals := 5695 }
set_option maxRecDepth 100000 in
set_option maxHeartbeats 4000000 in
theorem s_X12_tried {l : Launch} {n0 : Nat} {D : va_G} {cA : Nat → ClassId} {M : gM} (a : Int) (r_a : -2147483648 ≤ a ∧ a ≤ 2147483647) (b : Int) (r_b : -2147483648 ≤ b ∧ b ≤ 2147483647) {sz : Nat} (hsz : 206 ≤ sz) (I : gI sz M) (C : gC sz M) (W : gW 191 M) (q_191_4 : 0 ≤ M 191 4 ∧ M 191 4 ≤ 10)  : Met l yX12_tried (gWsOf yX12_tried cX12_tried 9 (Option.some Jvm.ClassFile.FieldType.int)) R_X12_tried (gPc n0 D cA [gA n0 190, gJ a, gJ b] M sz) (gQi n0 D cA sz (fun z M1 => (-2147483648 ≤ z ∧ z ≤ 2147483647) ∧ gI sz M1 ∧ gC sz M1 ∧ gFr 3559082316865207051910905856 M M1 ∧ ((∀ b : Int, 0 ≤ b → b < 25301 → ¬ b = 10 → M1 191 b = M 191 b)))) 0 0 (fun q => n0 ≤ q) := by
  refine gMetI [gA n0 190, gJ a, gJ b] (by decide) (Nat.le_of_ble_eq_true rfl) ⟨rfl, rfl⟩ ?_
  intro p e s m args below meth cd Q X hq
  have X : gCx p s m args meth cd n0 D cA "ParishUnionModel" cX12_tried 9 := X
  show G p l e R_X12_tried s m args below meth cd n0 D cA 9 Q 0 0 M sz 0 [(0, gA n0 190), (1, gJ a), (2, gJ b)] []
  obtain ⟨v1, hv1, rv1⟩ := gRd I (by decide) (gsz hsz (by decide)) (rs_PERS (k := 1) (by omega)).1
  obtain ⟨v2, hv2, rv2⟩ := gRd I (by decide) (gsz hsz (by decide)) (rs_NA (k := 4) (by omega)).1
  obtain ⟨v3, hv3, rv3⟩ := gRd I (by decide) (gsz hsz (by decide)) (rs_NOW (k := 0) (by omega)).1
  refine g_iload_n (n := 1) X 1 dX12_tried_0 rfl rfl rfl ?_
  refine g_iconst (n := 2) X dX12_tried_1 rfl ?_
  refine g_iconst (n := 3) X dX12_tried_2 rfl ?_
  refine g_callSi (n := 6) (As := [gJ a, gJ 0, gJ 2]) (rest := []) (cs1 := 0) (ss1 := 0) X (s_X12_in a (by omega) 0 (by omega) 2 (by omega) hsz I C ) okX12_in kw_6_106 kw_6_107 ⟨rfl, rfl⟩ ⟨Nat.le_of_ble_eq_true rfl, Nat.le_of_ble_eq_true rfl⟩ rfl rfl (Nat.le_of_ble_eq_true rfl) ⟨Nat.le_of_ble_eq_true rfl, Nat.le_of_ble_eq_true rfl⟩ rfl rfl dX12_tried_3 rfl (fun v4 M5 P6 => ?_)
  obtain ⟨rfl, rv4, xv4⟩ := P6
  refine g_if_eq (n := 9) (tgt := 31) X dX12_tried_6 (by decide) (by omega) rfl (fun c7 => ?_) (fun c7 => ?_)
  · refine g_iconst (n := 32) X dX12_tried_31 rfl ?_
    exact hq _ _ _ _ dX12_tried_32 ⟨by omega, I, C, gFr.rf, (fun b _ _ _ => rfl)⟩
  · refine g_aload_n (n := 10) X 0 dX12_tried_9 rfl rfl rfl ?_
    refine gg_12_1 (n := 13) (z := 191) X (by decide) (gsz hsz (by decide)) lay_190 kw_6_27 dX12_tried_10 rfl (rf_190_1 I (gsz hsz (by decide))) (by decide) ?_
    refine g_sipush (n := 16) X dX12_tried_13 (by decide +kernel) rfl ?_
    refine g_iload_n (n := 17) X 1 dX12_tried_16 rfl rfl rfl ?_
    refine g_iadd (n := 18) (z := a + 2580) X dX12_tried_17 (by omega) rfl ?_
    obtain ⟨v8, hv8, rv8⟩ := gRd I (by decide) (gsz hsz (by decide)) (rs_FMANY (k := a + 2580) (by omega)).1
    refine g_iald2 (n := 19) (v := v8) X (by decide) (gsz hsz (by decide)) lay_191 (by omega) (by omega) (by decide) dX12_tried_18 rfl hv8 ?_
    refine g_if_eq (n := 22) (tgt := 31) X dX12_tried_19 (by decide) (by omega) rfl (fun c9 => ?_) (fun c9 => ?_)
    · refine g_iconst (n := 32) X dX12_tried_31 rfl ?_
      exact hq _ _ _ _ dX12_tried_32 ⟨by omega, I, C, gFr.rf, (fun b _ _ _ => rfl)⟩
    · refine g_iload_n (n := 23) X 2 dX12_tried_22 rfl rfl rfl ?_
      refine g_iconst (n := 24) X dX12_tried_23 rfl ?_
      refine g_iconst (n := 25) X dX12_tried_24 rfl ?_
      refine g_callSi (n := 28) (As := [gJ b, gJ 0, gJ 2]) (rest := []) (cs1 := 0) (ss1 := 0) X (s_X12_in b (by omega) 0 (by omega) 2 (by omega) hsz I C ) okX12_in kw_6_106 kw_6_107 ⟨rfl, rfl⟩ ⟨Nat.le_of_ble_eq_true rfl, Nat.le_of_ble_eq_true rfl⟩ rfl rfl (Nat.le_of_ble_eq_true rfl) ⟨Nat.le_of_ble_eq_true rfl, Nat.le_of_ble_eq_true rfl⟩ rfl rfl dX12_tried_25 rfl (fun v10 M11 P12 => ?_)
      obtain ⟨rfl, rv10, xv10⟩ := P12
      refine g_if_ne (n := 31) (tgt := 33) X dX12_tried_28 (by decide) (by omega) rfl (fun c13 => ?_) (fun c13 => ?_)
      · refine g_aload_n (n := 34) X 0 dX12_tried_33 rfl rfl rfl ?_
        refine gg_12_1 (n := 37) (z := 191) X (by decide) (gsz hsz (by decide)) lay_190 kw_6_27 dX12_tried_34 rfl (rf_190_1 I (gsz hsz (by decide))) (by decide) ?_
        refine g_iconst (n := 38) X dX12_tried_37 rfl ?_
        refine g_iald2 (n := 39) (v := v3) X (by decide) (gsz hsz (by decide)) lay_191 (by omega) (by omega) (by decide) dX12_tried_38 rfl hv3 ?_
        refine g_aload_n (n := 40) X 0 dX12_tried_39 rfl rfl rfl ?_
        refine gg_12_1 (n := 43) (z := 191) X (by decide) (gsz hsz (by decide)) lay_190 kw_6_27 dX12_tried_40 rfl (rf_190_1 I (gsz hsz (by decide))) (by decide) ?_
        refine g_sipush (n := 46) X dX12_tried_43 (by decide +kernel) rfl ?_
        refine g_iload_n (n := 47) X 1 dX12_tried_46 rfl rfl rfl ?_
        refine g_iadd (n := 48) (z := a + 2580) X dX12_tried_47 (by omega) rfl ?_
        refine g_iald2 (n := 49) (v := v8) X (by decide) (gsz hsz (by decide)) lay_191 (by omega) (by omega) (by decide) dX12_tried_48 rfl hv8 ?_
        refine g_iadd (n := 50) (z := v3 + v8) X dX12_tried_49 rfl rfl ?_
        refine g_sipush (n := 53) X dX12_tried_50 (by decide +kernel) rfl ?_
        refine g_icmp_le (n := 56) (tgt := 59) X dX12_tried_53 (by decide) (by omega) (by omega) rfl (fun c14 => ?_) (fun c14 => ?_)
        · refine g_aload_n (n := 60) X 0 dX12_tried_59 rfl rfl rfl ?_
          refine g_aload_n (n := 61) X 0 dX12_tried_60 rfl rfl rfl ?_
          refine gg_12_2 (n := 64) (z := 192) X (by decide) (gsz hsz (by decide)) lay_190 kw_6_28 dX12_tried_61 rfl (rf_190_2 I (gsz hsz (by decide))) (by decide) ?_
          refine g_aload_n (n := 65) X 0 dX12_tried_64 rfl rfl rfl ?_
          refine gg_12_1 (n := 68) (z := 191) X (by decide) (gsz hsz (by decide)) lay_190 kw_6_27 dX12_tried_65 rfl (rf_190_1 I (gsz hsz (by decide))) (by decide) ?_
          refine g_callVv (n := 71) (As := [gA n0 192, gA n0 191]) (rest := []) (cs1 := 0) (ss1 := 0) X (s_X12_keep_192_191 hsz I C) okX12_keep kw_8_13 ⟨kw_8_15, kw_0_89⟩ ⟨rfl, rfl⟩ ⟨Nat.le_of_ble_eq_true rfl, Nat.le_of_ble_eq_true rfl⟩ rfl (by decide) (gsz hsz (by decide)) lay_190 rfl rfl (Nat.le_of_ble_eq_true rfl) ⟨Nat.le_of_ble_eq_true rfl, Nat.le_of_ble_eq_true rfl⟩ rfl rfl dX12_tried_68 rfl (fun M16 P17 => ?_)
          obtain ⟨IM16, CM16, KM16, EM16⟩ := P17
          have FM16 : gFr 9223372036854775808 M M16 := gFr.obj KM16 (fun b => (congrArg (Nat.testBit 9223372036854775808) (show gG 192 b = 63 from rfl)).trans (by decide))
          refine g_aload_n (n := 72) X 0 dX12_tried_71 rfl rfl rfl ?_
          refine gg_12_1 (n := 75) (z := 191) X (by decide) (gsz hsz (by decide)) lay_190 kw_6_27 dX12_tried_72 rfl (rf_190_1 IM16 (gsz hsz (by decide))) (by decide) ?_
          refine g_iconst (n := 76) X dX12_tried_75 rfl ?_
          refine g_iald2 (n := 77) (v := v2) X (by decide) (gsz hsz (by decide)) lay_191 (by omega) (by omega) (by decide) dX12_tried_76 rfl ((gFr.at FM16 (rs_NA (k := 4) (by omega)).2.2 rfl).trans hv2) ?_
          refine g_istore_n (n := 78) (L' := [(3, gJ v2), (0, gA n0 190), (1, gJ a), (2, gJ b)]) X dX12_tried_77 rfl (by decide) rfl rfl ?_
          refine g_aload_n (n := 79) X 1 dX12_tried_78 rfl rfl rfl ?_
          refine g_iload_n (n := 80) X 0 dX12_tried_79 rfl rfl rfl ?_
          refine g_aload_n (n := 81) X 1 dX12_tried_80 rfl rfl rfl ?_
          refine gg_12_1 (n := 84) (z := 191) X (by decide) (gsz hsz (by decide)) lay_190 kw_6_27 dX12_tried_81 rfl (rf_190_1 IM16 (gsz hsz (by decide))) (by decide) ?_
          refine g_iconst (n := 85) X dX12_tried_84 rfl ?_
          refine g_iald2 (n := 86) (v := v3) X (by decide) (gsz hsz (by decide)) lay_191 (by omega) (by omega) (by decide) dX12_tried_85 rfl ((gFr.at FM16 (rs_NOW (k := 0) (by omega)).2.2 rfl).trans hv3) ?_
          refine g_callVi (n := 89) (As := [gJ v2, gJ v3]) (rest := []) (cs1 := 0) (ss1 := 0) X (s_X12_readsAct v2 (by omega) v3 (by omega) hsz IM16 CM16 (gW.fr (S := 9223372036854775808) W ⟨sz, hsz, I⟩ (gFr.c gFr.rf FM16 rfl) rfl)) okX12_readsAct kw_6_239 ⟨kw_7_1, kw_0_55⟩ ⟨rfl, rfl⟩ ⟨Nat.le_of_ble_eq_true rfl, Nat.le_of_ble_eq_true rfl⟩ rfl (by decide) (gsz hsz (by decide)) lay_190 rfl rfl (Nat.le_of_ble_eq_true rfl) ⟨Nat.le_of_ble_eq_true rfl, Nat.le_of_ble_eq_true rfl⟩ rfl rfl dX12_tried_86 rfl (fun v18 M19 P20 => ?_)
          obtain ⟨rv18, IM19, CM19, FM19⟩ := P20
          refine g_istore (n := 91) (L' := [(4, gJ v18), (3, gJ v2), (0, gA n0 190), (1, gJ a), (2, gJ b)]) X dX12_tried_89 (by decide) rfl rfl ?_
          refine g_aload_n (n := 92) X 2 dX12_tried_91 rfl rfl rfl ?_
          obtain ⟨v21, hv21, rv21⟩ := gRd IM19 (by decide) (gsz hsz (by decide)) rc_190_12.1
          refine gg_12_12 (n := 95) (z := v21) X (by decide) (gsz hsz (by decide)) lay_190 kw_6_38 dX12_tried_92 rfl hv21 ?_
          refine g_istore (n := 97) (L' := [(5, gJ v21), (4, gJ v18), (3, gJ v2), (0, gA n0 190), (1, gJ a), (2, gJ b)]) X dX12_tried_95 (by decide) rfl rfl ?_
          refine g_iconst (n := 98) X dX12_tried_97 rfl ?_
          refine g_istore (n := 100) (L' := [(6, gJ 0), (5, gJ v21), (4, gJ v18), (3, gJ v2), (0, gA n0 190), (1, gJ a), (2, gJ b)]) X dX12_tried_98 (by decide) rfl rfl ?_
          refine g_iload (n := 102) X 2 dX12_tried_100 rfl rfl ?_
          refine g_if_eq (n := 105) (tgt := 207) X dX12_tried_102 (by decide) (by omega) rfl (fun c22 => ?_) (fun c22 => ?_)
          · refine g_aload_n (n := 208) X 4 dX12_tried_207 rfl rfl rfl ?_
            refine g_aload_n (n := 209) X 4 dX12_tried_208 rfl rfl rfl ?_
            refine gg_12_1 (n := 212) (z := 191) X (by decide) (gsz hsz (by decide)) lay_190 kw_6_27 dX12_tried_209 rfl (rf_190_1 IM19 (gsz hsz (by decide))) (by decide) ?_
            refine g_aload_n (n := 213) X 4 dX12_tried_212 rfl rfl rfl ?_
            refine gg_12_2 (n := 216) (z := 192) X (by decide) (gsz hsz (by decide)) lay_190 kw_6_28 dX12_tried_213 rfl (rf_190_2 IM19 (gsz hsz (by decide))) (by decide) ?_
            refine g_callVv (n := 219) (As := [gA n0 191, gA n0 192]) (rest := []) (cs1 := 0) (ss1 := 0) X (s_X12_keep_191_192 hsz IM19 CM19) okX12_keep kw_8_13 ⟨kw_8_15, kw_0_89⟩ ⟨rfl, rfl⟩ ⟨Nat.le_of_ble_eq_true rfl, Nat.le_of_ble_eq_true rfl⟩ rfl (by decide) (gsz hsz (by decide)) lay_190 rfl rfl (Nat.le_of_ble_eq_true rfl) ⟨Nat.le_of_ble_eq_true rfl, Nat.le_of_ble_eq_true rfl⟩ rfl rfl dX12_tried_216 rfl (fun M24 P25 => ?_)
            obtain ⟨IM24, CM24, KM24, EM24⟩ := P25
            have FM24 : gFr 1083197543598079743031771136 M19 M24 := gFr.obj KM24 gGsg_all
            have EEM24 : ∀ b : Int, 0 ≤ b → b < 25301 → M24 191 b = M 191 b := fun b h0 h1 => (EM24 b h0 h1).trans ((gFr.at ((gFr.c gFr.rf FM19 rfl) : gFr 2475884173752466105132122112 M16 M19) (show gG 192 b = 63 from rfl) rfl).trans (EM16 b h0 h1))
            have WWM24 : gW 191 M24 := gW.eq W I ⟨by decide, gsz hsz (by decide)⟩ (fun _ => rfl) EEM24
            refine g_aload_n (n := 220) X 4 dX12_tried_219 rfl rfl rfl ?_
            refine g_dup (n := 221) X dX12_tried_220 rfl rfl ?_
            obtain ⟨v26, hv26, rv26⟩ := gRd IM24 (by decide) (gsz hsz (by decide)) rc_190_19.1
            refine gg_12_19 (n := 224) (z := v26) X (by decide) (gsz hsz (by decide)) lay_190 kw_6_45 dX12_tried_221 rfl hv26 ?_
            refine g_iconst (n := 225) X dX12_tried_224 rfl ?_
            refine g_iaddA (n := 226) X dX12_tried_225 rfl (fun v27 rv27 xv27 => ?_)
            clear xv27
            refine gp_12_19 (n := 229) X (by decide) (gsz hsz (by decide)) lay_190 kw_6_45 dX12_tried_226 rfl ?_
            refine G.nm (fun M28 e29 => ?_)
            have IM28 : gI sz M28 := gI.set IM24 rc_190_19.1 (by omega) e29
            have CM28 : gC sz M28 := gC.set CM24 rc_190_19.2.1 e29
            refine g_aload_n (n := 230) X 4 dX12_tried_229 rfl rfl rfl ?_
            refine gg_12_1 (n := 233) (z := 191) X (by decide) (gsz hsz (by decide)) lay_190 kw_6_27 dX12_tried_230 rfl (rf_190_1 IM28 (gsz hsz (by decide))) (by decide) ?_
            refine g_bipush (n := 235) X dX12_tried_233 (by decide +kernel) rfl ?_
            refine g_iconst (n := 236) X dX12_tried_235 rfl ?_
            refine g_iast (n := 237) X (by decide) (gsz hsz (by decide)) lay_191 (by omega) (by omega) (by decide) dX12_tried_236 rfl ?_
            refine G.nm (fun M30 e31 => ?_)
            have IM30 : gI sz M30 := gI.set IM28 (rs_TAPED (k := 10) (by omega)).1 (by omega) e31
            have CM30 : gC sz M30 := gC.set CM28 (rs_TAPED (k := 10) (by omega)).2.1 e31
            refine g_iload (n := 239) X 2 dX12_tried_237 rfl rfl ?_
            refine g_if_eq (n := 242) (tgt := 247) X dX12_tried_239 (by decide) (by omega) rfl (fun c32 => ?_) (fun c32 => by exfalso; omega)
            refine g_bipush (n := 249) X dX12_tried_247 (by decide +kernel) rfl ?_
            refine g_iload (n := 251) X 1 dX12_tried_249 rfl rfl ?_
            refine g_isub (n := 252) (z := (-10) - v21) X dX12_tried_251 rfl rfl ?_
            exact hq _ _ _ _ dX12_tried_252 ⟨by omega, IM30, CM30, (gFr.s (gFr.s (gFr.c (gFr.c (gFr.c gFr.rf FM16 rfl) FM19 rfl) FM24 rfl) e29 rc_190_19.2.2 rfl) e31 (rs_TAPED (k := 10) (by omega)).2.2 rfl), (fun b h0 h1 h2 => ((congrFun (congrFun e31 191) b).trans ((gset_ne (by omega)).trans ((congrFun (congrFun e29 191) b).trans ((gset_ne (by omega)).trans (EEM24 b h0 h1))))))⟩
          · refine g_aload_n (n := 106) X 4 dX12_tried_105 rfl rfl rfl ?_
            refine gg_12_1 (n := 109) (z := 191) X (by decide) (gsz hsz (by decide)) lay_190 kw_6_27 dX12_tried_106 rfl (rf_190_1 IM19 (gsz hsz (by decide))) (by decide) ?_
            refine g_iconst (n := 110) X dX12_tried_109 rfl ?_
            refine g_dup2 (n := 111) X dX12_tried_110 rfl rfl rfl ?_
            refine g_iald2 (n := 112) (v := v2) X (by decide) (gsz hsz (by decide)) lay_191 (by omega) (by omega) (by decide) dX12_tried_111 rfl ((gFr.at FM19 (rs_NA (k := 4) (by omega)).2.2 rfl).trans ((gFr.at FM16 (rs_NA (k := 4) (by omega)).2.2 rfl).trans hv2)) ?_
            refine g_iconst (n := 113) X dX12_tried_112 rfl ?_
            refine g_iadd (n := 114) (z := v2 + 1) X dX12_tried_113 (by omega) rfl ?_
            refine g_iast (n := 115) X (by decide) (gsz hsz (by decide)) lay_191 (by omega) (by omega) (by decide) dX12_tried_114 rfl ?_
            refine G.nm (fun M33 e34 => ?_)
            have IM33 : gI sz M33 := gI.set IM19 (rs_NA (k := 4) (by omega)).1 (by omega) e34
            have CM33 : gC sz M33 := gC.set CM19 (rs_NA (k := 4) (by omega)).2.1 e34
            refine g_aload_n (n := 116) X 4 dX12_tried_115 rfl rfl rfl ?_
            refine g_dup (n := 117) X dX12_tried_116 rfl rfl ?_
            obtain ⟨v35, hv35, rv35⟩ := gRd IM33 (by decide) (gsz hsz (by decide)) rc_190_19.1
            refine gg_12_19 (n := 120) (z := v35) X (by decide) (gsz hsz (by decide)) lay_190 kw_6_45 dX12_tried_117 rfl hv35 ?_
            refine g_iconst (n := 121) X dX12_tried_120 rfl ?_
            refine g_iaddA (n := 122) X dX12_tried_121 rfl (fun v36 rv36 xv36 => ?_)
            clear xv36
            refine gp_12_19 (n := 125) X (by decide) (gsz hsz (by decide)) lay_190 kw_6_45 dX12_tried_122 rfl ?_
            refine G.nm (fun M37 e38 => ?_)
            have IM37 : gI sz M37 := gI.set IM33 rc_190_19.1 (by omega) e38
            have CM37 : gC sz M37 := gC.set CM33 rc_190_19.2.1 e38
            refine g_aload_n (n := 126) X 4 dX12_tried_125 rfl rfl rfl ?_
            refine gg_12_1 (n := 129) (z := 191) X (by decide) (gsz hsz (by decide)) lay_190 kw_6_27 dX12_tried_126 rfl (rf_190_1 IM37 (gsz hsz (by decide))) (by decide) ?_
            refine g_iconst (n := 130) X dX12_tried_129 rfl ?_
            refine g_iald2 (n := 131) (v := v3) X (by decide) (gsz hsz (by decide)) lay_191 (by omega) (by omega) (by decide) dX12_tried_130 rfl ((congrFun (congrFun e38 _) _).trans ((gset_ne (by omega)).trans ((congrFun (congrFun e34 _) _).trans ((gset_ne (by omega)).trans ((gFr.at FM19 (rs_NOW (k := 0) (by omega)).2.2 rfl).trans ((gFr.at FM16 (rs_NOW (k := 0) (by omega)).2.2 rfl).trans hv3)))))) ?_
            refine g_istore (n := 133) (L' := [(7, gJ v3), (6, gJ 0), (5, gJ v21), (4, gJ v18), (3, gJ v2), (0, gA n0 190), (1, gJ a), (2, gJ b)]) X dX12_tried_131 (by decide) rfl rfl ?_
            refine g_aload_n (n := 134) X 5 dX12_tried_133 rfl rfl rfl ?_
            refine g_iload_n (n := 135) X 6 dX12_tried_134 rfl rfl rfl ?_
            refine g_callVv (n := 138) (As := [gJ a]) (rest := []) (cs1 := 0) (ss1 := 0) X (s_X12_winter a (by omega) hsz IM37 CM37 (gW.fr (S := 2475884773271648775570456576) W ⟨sz, hsz, I⟩ (gFr.s (gFr.s (gFr.c (gFr.c gFr.rf FM16 rfl) FM19 rfl) e34 (rs_NA (k := 4) (by omega)).2.2 rfl) e38 rc_190_19.2.2 rfl) rfl) (by have q0 := ((congrFun (congrFun e38 _) _).trans ((gset_ne (by omega)).trans ((congrFun (congrFun e34 _) _).trans ((gset_ne (by omega)).trans ((gFr.at FM19 (rs_NOW (k := 0) (by omega)).2.2 rfl).trans ((gFr.at FM16 (rs_NOW (k := 0) (by omega)).2.2 rfl).trans hv3)))))); have q1 := ((congrFun (congrFun e38 _) _).trans ((gset_ne (by omega)).trans ((congrFun (congrFun e34 _) _).trans ((gset_ne (by omega)).trans ((gFr.at FM19 (rs_FMANY (k := a + 2580) (by omega)).2.2 rfl).trans ((gFr.at FM16 (rs_FMANY (k := a + 2580) (by omega)).2.2 rfl).trans hv8)))))); omega)) okX12_winter kw_8_21 ⟨kw_8_23, kw_0_91⟩ ⟨rfl, rfl⟩ ⟨Nat.le_of_ble_eq_true rfl, Nat.le_of_ble_eq_true rfl⟩ rfl (by decide) (gsz hsz (by decide)) lay_190 rfl rfl (Nat.le_of_ble_eq_true rfl) ⟨Nat.le_of_ble_eq_true rfl, Nat.le_of_ble_eq_true rfl⟩ rfl rfl dX12_tried_135 rfl (fun M40 P41 => ?_)
            obtain ⟨IM40, CM40, FM40, xM40⟩ := P41
            refine g_iload (n := 140) X 0 dX12_tried_138 rfl rfl ?_
            refine g_istore (n := 142) (L' := [(8, gJ v3), (7, gJ v3), (6, gJ 0), (5, gJ v21), (4, gJ v18), (3, gJ v2), (0, gA n0 190), (1, gJ a), (2, gJ b)]) X dX12_tried_140 (by decide) rfl rfl ?_
            have j45 : ∀ (N85 : Nat) (v42 v43 : Int) , (-2147483648 ≤ v42 ∧ v42 ≤ 2147483647) → (0 ≤ v43 ∧ v43 ≤ 300) → (300 - v43).toNat < N85 → G p l e R_X12_tried s m args below meth cd n0 D cA 9 Q 0 0 M40 sz 142 [(0, gA n0 190), (2, gJ b), (4, gJ v18), (5, gJ v21), (6, gJ v42), (8, gJ v43)] [] := by
              intro N85; induction N85 with
              | zero => intro v42 v43 rv42 rv43 hm87; exfalso; omega
              | succ N85 ih86 =>
                intro v42 v43 rv42 rv43 hm87
                refine g_iload (n := 144) X 5 dX12_tried_142 rfl rfl ?_
                refine g_aload_n (n := 145) X 0 dX12_tried_144 rfl rfl rfl ?_
                refine gg_12_1 (n := 148) (z := 191) X (by decide) (gsz hsz (by decide)) lay_190 kw_6_27 dX12_tried_145 rfl (rf_190_1 IM40 (gsz hsz (by decide))) (by decide) ?_
                refine g_iconst (n := 149) X dX12_tried_148 rfl ?_
                obtain ⟨v88, hv88, rv88⟩ := gRd IM40 (by decide) (gsz hsz (by decide)) (rs_NOW (k := 0) (by omega)).1
                refine g_iald2 (n := 150) (v := v88) X (by decide) (gsz hsz (by decide)) lay_191 (by omega) (by omega) (by decide) dX12_tried_149 rfl hv88 ?_
                refine g_icmp_ge (n := 153) (tgt := 207) X dX12_tried_150 (by decide) (by omega) (by omega) rfl (fun c89 => ?_) (fun c89 => ?_)
                · refine g_aload_n (n := 208) X 0 dX12_tried_207 rfl rfl rfl ?_
                  refine g_aload_n (n := 209) X 0 dX12_tried_208 rfl rfl rfl ?_
                  refine gg_12_1 (n := 212) (z := 191) X (by decide) (gsz hsz (by decide)) lay_190 kw_6_27 dX12_tried_209 rfl (rf_190_1 IM40 (gsz hsz (by decide))) (by decide) ?_
                  refine g_aload_n (n := 213) X 0 dX12_tried_212 rfl rfl rfl ?_
                  refine gg_12_2 (n := 216) (z := 192) X (by decide) (gsz hsz (by decide)) lay_190 kw_6_28 dX12_tried_213 rfl (rf_190_2 IM40 (gsz hsz (by decide))) (by decide) ?_
                  refine g_callVv (n := 219) (As := [gA n0 191, gA n0 192]) (rest := []) (cs1 := 0) (ss1 := 0) X (s_X12_keep_191_192 hsz IM40 CM40) okX12_keep kw_8_13 ⟨kw_8_15, kw_0_89⟩ ⟨rfl, rfl⟩ ⟨Nat.le_of_ble_eq_true rfl, Nat.le_of_ble_eq_true rfl⟩ rfl (by decide) (gsz hsz (by decide)) lay_190 rfl rfl (Nat.le_of_ble_eq_true rfl) ⟨Nat.le_of_ble_eq_true rfl, Nat.le_of_ble_eq_true rfl⟩ rfl rfl dX12_tried_216 rfl (fun M91 P92 => ?_)
                  obtain ⟨IM91, CM91, KM91, EM91⟩ := P92
                  have FM91 : gFr 1083197543598079743031771136 M40 M91 := gFr.obj KM91 gGsg_all
                  have EEM91 : ∀ b : Int, 0 ≤ b → b < 25301 → M91 191 b = M 191 b := fun b h0 h1 => (EM91 b h0 h1).trans ((gFr.at ((gFr.c (gFr.s (gFr.s (gFr.c gFr.rf FM19 rfl) e34 (rs_NA (k := 4) (by omega)).2.2 rfl) e38 rc_190_19.2.2 rfl) FM40 rfl) : gFr 2475884772696318355580125184 M16 M40) (show gG 192 b = 63 from rfl) rfl).trans (EM16 b h0 h1))
                  have WWM91 : gW 191 M91 := gW.eq W I ⟨by decide, gsz hsz (by decide)⟩ (fun _ => rfl) EEM91
                  refine g_aload_n (n := 220) X 0 dX12_tried_219 rfl rfl rfl ?_
                  refine g_dup (n := 221) X dX12_tried_220 rfl rfl ?_
                  refine gg_12_19 (n := 224) (z := v36) X (by decide) (gsz hsz (by decide)) lay_190 kw_6_45 dX12_tried_221 rfl ((gFr.at FM91 rc_190_19.2.2 rfl).trans ((gFr.at FM40 rc_190_19.2.2 rfl).trans ((congrFun (congrFun e38 _) _).trans (gset_eq _ _ _ _)))) ?_
                  refine g_iconst (n := 225) X dX12_tried_224 rfl ?_
                  refine g_iaddA (n := 226) X dX12_tried_225 rfl (fun v93 rv93 xv93 => ?_)
                  clear xv93
                  refine gp_12_19 (n := 229) X (by decide) (gsz hsz (by decide)) lay_190 kw_6_45 dX12_tried_226 rfl ?_
                  refine G.nm (fun M94 e95 => ?_)
                  have IM94 : gI sz M94 := gI.set IM91 rc_190_19.1 (by omega) e95
                  have CM94 : gC sz M94 := gC.set CM91 rc_190_19.2.1 e95
                  refine g_aload_n (n := 230) X 0 dX12_tried_229 rfl rfl rfl ?_
                  refine gg_12_1 (n := 233) (z := 191) X (by decide) (gsz hsz (by decide)) lay_190 kw_6_27 dX12_tried_230 rfl (rf_190_1 IM94 (gsz hsz (by decide))) (by decide) ?_
                  refine g_bipush (n := 235) X dX12_tried_233 (by decide +kernel) rfl ?_
                  refine g_iconst (n := 236) X dX12_tried_235 rfl ?_
                  refine g_iast (n := 237) X (by decide) (gsz hsz (by decide)) lay_191 (by omega) (by omega) (by decide) dX12_tried_236 rfl ?_
                  refine G.nm (fun M96 e97 => ?_)
                  have IM96 : gI sz M96 := gI.set IM94 (rs_TAPED (k := 10) (by omega)).1 (by omega) e97
                  have CM96 : gC sz M96 := gC.set CM94 (rs_TAPED (k := 10) (by omega)).2.1 e97
                  refine g_iload (n := 239) X 2 dX12_tried_237 rfl rfl ?_
                  refine g_if_eq (n := 242) (tgt := 247) X dX12_tried_239 (by decide) (by omega) rfl (fun c98 => by exfalso; omega) (fun c98 => ?_)
                  refine g_iload (n := 244) X 4 dX12_tried_242 rfl rfl ?_
                  refine g_goto (tgt := 252) X dX12_tried_244 (by decide) ?_
                  exact hq _ _ _ _ dX12_tried_252 ⟨by omega, IM96, CM96, (gFr.s (gFr.s (gFr.c (gFr.c (gFr.s (gFr.s (gFr.c (gFr.c gFr.rf FM16 rfl) FM19 rfl) e34 (rs_NA (k := 4) (by omega)).2.2 rfl) e38 rc_190_19.2.2 rfl) FM40 rfl) FM91 rfl) e95 rc_190_19.2.2 rfl) e97 (rs_TAPED (k := 10) (by omega)).2.2 rfl), (fun b h0 h1 h2 => ((congrFun (congrFun e97 191) b).trans ((gset_ne (by omega)).trans ((congrFun (congrFun e95 191) b).trans ((gset_ne (by omega)).trans (EEM91 b h0 h1))))))⟩
                · refine g_iload (n := 155) X 4 dX12_tried_153 rfl rfl ?_
                  refine g_iload_n (n := 156) X 1 dX12_tried_155 rfl rfl rfl ?_
                  refine g_if_ne (n := 159) (tgt := 173) X dX12_tried_156 (by decide) (by omega) rfl (fun c99 => ?_) (fun c99 => ?_)
                  · refine g_iload_n (n := 174) X 1 dX12_tried_173 rfl rfl rfl ?_
                    refine g_iconst (n := 175) X dX12_tried_174 rfl ?_
                    refine g_icmp_ne (n := 178) (tgt := 192) X dX12_tried_175 (by decide) (by omega) (by omega) rfl (fun c100 => ?_) (fun c100 => ?_)
                    · refine g_aload_n (n := 193) X 0 dX12_tried_192 rfl rfl rfl ?_
                      refine g_iload (n := 195) X 5 dX12_tried_193 rfl rfl ?_
                      refine g_callVi (n := 198) (As := [gJ v43]) (rest := [gJ v42]) (cs1 := 0) (ss1 := 0) X (s_X12_costOf v43 (by omega) hsz IM40 CM40 ) okX12_costOf kw_7_174 ⟨kw_7_176, kw_0_83⟩ ⟨rfl, rfl⟩ ⟨Nat.le_of_ble_eq_true rfl, Nat.le_of_ble_eq_true rfl⟩ rfl (by decide) (gsz hsz (by decide)) lay_190 rfl rfl (Nat.le_of_ble_eq_true rfl) ⟨Nat.le_of_ble_eq_true rfl, Nat.le_of_ble_eq_true rfl⟩ rfl rfl dX12_tried_195 rfl (fun v101 M102 P103 => ?_)
                      obtain ⟨rfl, rv101⟩ := P103
                      refine g_iaddA (n := 199) X dX12_tried_198 rfl (fun v104 rv104 xv104 => ?_)
                      clear xv104
                      refine g_istore (n := 201) (L' := [(6, gJ v104), (0, gA n0 190), (2, gJ b), (4, gJ v18), (5, gJ v21), (8, gJ v43)]) X dX12_tried_199 (by decide) rfl rfl ?_
                      refine g_iinc (n := 204) (w := v43 + 1) (L' := [(8, gJ (v43 + 1)), (6, gJ v104), (0, gA n0 190), (2, gJ b), (4, gJ v18), (5, gJ v21)]) X 5 dX12_tried_201 rfl rfl (by decide) rfl rfl ?_
                      refine g_goto (tgt := 142) X dX12_tried_204 (by decide) ?_
                      refine G.sub (L' := [(0, gA n0 190), (2, gJ b), (4, gJ v18), (5, gJ v21), (6, gJ v104), (8, gJ (v43 + 1))]) [2, 3, 4, 5, 1, 0] rfl ?_
                      exact ih86 v104 (v43 + 1) (by omega) (by omega) (by omega)
                    · refine g_aload_n (n := 179) X 0 dX12_tried_178 rfl rfl rfl ?_
                      refine gg_12_1 (n := 182) (z := 191) X (by decide) (gsz hsz (by decide)) lay_190 kw_6_27 dX12_tried_179 rfl (rf_190_1 IM40 (gsz hsz (by decide))) (by decide) ?_
                      refine g_sipush (n := 185) X dX12_tried_182 (by decide +kernel) rfl ?_
                      refine g_iload (n := 187) X 5 dX12_tried_185 rfl rfl ?_
                      refine g_iadd (n := 188) (z := v43 + 3802) X dX12_tried_187 (by omega) rfl ?_
                      obtain ⟨v105, hv105, rv105⟩ := gRd IM40 (by decide) (gsz hsz (by decide)) (rs_G (k := v43 + 3802) (by omega)).1
                      refine g_iald2 (n := 189) (v := v105) X (by decide) (gsz hsz (by decide)) lay_191 (by omega) (by omega) (by decide) dX12_tried_188 rfl hv105 ?_
                      refine g_goto (tgt := 198) X dX12_tried_189 (by decide) ?_
                      refine g_iaddA (n := 199) X dX12_tried_198 rfl (fun v106 rv106 xv106 => ?_)
                      clear xv106
                      refine g_istore (n := 201) (L' := [(6, gJ v106), (0, gA n0 190), (2, gJ b), (4, gJ v18), (5, gJ v21), (8, gJ v43)]) X dX12_tried_199 (by decide) rfl rfl ?_
                      refine g_iinc (n := 204) (w := v43 + 1) (L' := [(8, gJ (v43 + 1)), (6, gJ v106), (0, gA n0 190), (2, gJ b), (4, gJ v18), (5, gJ v21)]) X 5 dX12_tried_201 rfl rfl (by decide) rfl rfl ?_
                      refine g_goto (tgt := 142) X dX12_tried_204 (by decide) ?_
                      refine G.sub (L' := [(0, gA n0 190), (2, gJ b), (4, gJ v18), (5, gJ v21), (6, gJ v106), (8, gJ (v43 + 1))]) [2, 3, 4, 5, 1, 0] rfl ?_
                      exact ih86 v106 (v43 + 1) (by omega) (by omega) (by omega)
                  · refine g_aload_n (n := 160) X 0 dX12_tried_159 rfl rfl rfl ?_
                    refine gg_12_1 (n := 163) (z := 191) X (by decide) (gsz hsz (by decide)) lay_190 kw_6_27 dX12_tried_160 rfl (rf_190_1 IM40 (gsz hsz (by decide))) (by decide) ?_
                    refine g_sipush (n := 166) X dX12_tried_163 (by decide +kernel) rfl ?_
                    refine g_iload (n := 168) X 5 dX12_tried_166 rfl rfl ?_
                    refine g_iadd (n := 169) (z := v43 + 4404) X dX12_tried_168 (by omega) rfl ?_
                    obtain ⟨v107, hv107, rv107⟩ := gRd IM40 (by decide) (gsz hsz (by decide)) (rs_G (k := v43 + 4404) (by omega)).1
                    refine g_iald2 (n := 170) (v := v107) X (by decide) (gsz hsz (by decide)) lay_191 (by omega) (by omega) (by decide) dX12_tried_169 rfl hv107 ?_
                    refine g_goto (tgt := 198) X dX12_tried_170 (by decide) ?_
                    refine g_iaddA (n := 199) X dX12_tried_198 rfl (fun v108 rv108 xv108 => ?_)
                    clear xv108
                    refine g_istore (n := 201) (L' := [(6, gJ v108), (0, gA n0 190), (2, gJ b), (4, gJ v18), (5, gJ v21), (8, gJ v43)]) X dX12_tried_199 (by decide) rfl rfl ?_
                    refine g_iinc (n := 204) (w := v43 + 1) (L' := [(8, gJ (v43 + 1)), (6, gJ v108), (0, gA n0 190), (2, gJ b), (4, gJ v18), (5, gJ v21)]) X 5 dX12_tried_201 rfl rfl (by decide) rfl rfl ?_
                    refine g_goto (tgt := 142) X dX12_tried_204 (by decide) ?_
                    refine G.sub (L' := [(0, gA n0 190), (2, gJ b), (4, gJ v18), (5, gJ v21), (6, gJ v108), (8, gJ (v43 + 1))]) [2, 3, 4, 5, 1, 0] rfl ?_
                    exact ih86 v108 (v43 + 1) (by omega) (by omega) (by omega)
            refine G.sub (L' := [(0, gA n0 190), (2, gJ b), (4, gJ v18), (5, gJ v21), (6, gJ 0), (8, gJ v3)]) [6, 8, 4, 3, 2, 0] rfl ?_
            exact j45 _ 0 v3 (by omega) (by omega) (Nat.lt_succ_self _)
        · refine g_bipush (n := 58) X dX12_tried_56 (by decide +kernel) rfl ?_
          exact hq _ _ _ _ dX12_tried_58 ⟨by omega, I, C, gFr.rf, (fun b _ _ _ => rfl)⟩
      · refine g_iconst (n := 32) X dX12_tried_31 rfl ?_
        exact hq _ _ _ _ dX12_tried_32 ⟨by omega, I, C, gFr.rf, (fun b _ _ _ => rfl)⟩
