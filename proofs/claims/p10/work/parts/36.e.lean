theorem dX12_outside_0 : decode cX12_outside 0 = .ok (.iconst 0, 1) := dc_3 (by decide +kernel)
theorem dX12_outside_1 : decode cX12_outside 1 = .ok (.istore_n 2, 1) := dc_61 (by decide +kernel)
theorem dX12_outside_2 : decode cX12_outside 2 = .ok (.iload_n 2, 1) := dc_28 (by decide +kernel)
theorem dX12_outside_3 : decode cX12_outside 3 = .ok (.aload_n 0, 1) := dc_42 (by decide +kernel)
theorem dX12_outside_4 : decode cX12_outside 4 = .ok (.getfield 7, 3) := dc_180 0 7 (by decide +kernel)
theorem dX12_outside_7 : decode cX12_outside 7 = .ok (.iconst 1, 1) := dc_4 (by decide +kernel)
theorem dX12_outside_8 : decode cX12_outside 8 = .ok (.iaload, 1) := dc_46 (by decide +kernel)
theorem dX12_outside_9 : decode cX12_outside 9 = .ok (.if_icmp .ge 107, 3) := dc_162 0 107 107 (by decide +kernel)
theorem dX12_outside_12 : decode cX12_outside 12 = .ok (.aload_n 0, 1) := dc_42 (by decide +kernel)
theorem dX12_outside_13 : decode cX12_outside 13 = .ok (.getfield 7, 3) := dc_180 0 7 (by decide +kernel)
theorem dX12_outside_16 : decode cX12_outside 16 = .ok (.sipush 160, 3) := dc_17 0 160 160 (by decide +kernel)
theorem dX12_outside_19 : decode cX12_outside 19 = .ok (.iload_n 2, 1) := dc_28 (by decide +kernel)
theorem dX12_outside_20 : decode cX12_outside 20 = .ok (.iadd, 1) := dc_96 (by decide +kernel)
theorem dX12_outside_21 : decode cX12_outside 21 = .ok (.iaload, 1) := dc_46 (by decide +kernel)
theorem dX12_outside_22 : decode cX12_outside 22 = .ok (.bipush 6, 2) := dc_16 6 6 (by decide +kernel)
theorem dX12_outside_24 : decode cX12_outside 24 = .ok (.if_icmp .ge 86, 3) := dc_162 0 86 86 (by decide +kernel)
theorem dX12_outside_110 : decode cX12_outside 110 = .ok (.iinc 2 1, 3) := dc_132 2 1 1 (by decide +kernel)
theorem dX12_outside_113 : decode cX12_outside 113 = .ok (.goto (-111), 3) := dc_167 255 145 (-111) (by decide +kernel)
theorem dX12_outside_27 : decode cX12_outside 27 = .ok (.aload_n 0, 1) := dc_42 (by decide +kernel)
theorem dX12_outside_28 : decode cX12_outside 28 = .ok (.iload_n 2, 1) := dc_28 (by decide +kernel)
theorem dX12_outside_29 : decode cX12_outside 29 = .ok (.iconst 1, 1) := dc_4 (by decide +kernel)
theorem dX12_outside_30 : decode cX12_outside 30 = .ok (.aload_n 0, 1) := dc_42 (by decide +kernel)
theorem dX12_outside_31 : decode cX12_outside 31 = .ok (.getfield 7, 3) := dc_180 0 7 (by decide +kernel)
theorem dX12_outside_34 : decode cX12_outside 34 = .ok (.sipush 2800, 3) := dc_17 10 240 2800 (by decide +kernel)
theorem dX12_outside_37 : decode cX12_outside 37 = .ok (.iload_n 1, 1) := dc_27 (by decide +kernel)
theorem dX12_outside_38 : decode cX12_outside 38 = .ok (.iadd, 1) := dc_96 (by decide +kernel)
theorem dX12_outside_39 : decode cX12_outside 39 = .ok (.iaload, 1) := dc_46 (by decide +kernel)
theorem dX12_outside_40 : decode cX12_outside 40 = .ok (.iconst 3, 1) := dc_6 (by decide +kernel)
theorem dX12_outside_41 : decode cX12_outside 41 = .ok (.idiv, 1) := dc_108 (by decide +kernel)
theorem dX12_outside_42 : decode cX12_outside 42 = .ok (.iadd, 1) := dc_96 (by decide +kernel)
theorem dX12_outside_43 : decode cX12_outside 43 = .ok (.aload_n 0, 1) := dc_42 (by decide +kernel)
theorem dX12_outside_44 : decode cX12_outside 44 = .ok (.getfield 7, 3) := dc_180 0 7 (by decide +kernel)
theorem dX12_outside_47 : decode cX12_outside 47 = .ok (.sipush 144, 3) := dc_17 0 144 144 (by decide +kernel)
theorem dX12_outside_50 : decode cX12_outside 50 = .ok (.iload_n 2, 1) := dc_28 (by decide +kernel)
theorem dX12_outside_51 : decode cX12_outside 51 = .ok (.iadd, 1) := dc_96 (by decide +kernel)
theorem dX12_outside_52 : decode cX12_outside 52 = .ok (.iaload, 1) := dc_46 (by decide +kernel)
theorem dX12_outside_53 : decode cX12_outside 53 = .ok (.iconst 4, 1) := dc_7 (by decide +kernel)
theorem dX12_outside_54 : decode cX12_outside 54 = .ok (.idiv, 1) := dc_108 (by decide +kernel)
theorem dX12_outside_55 : decode cX12_outside 55 = .ok (.isub, 1) := dc_100 (by decide +kernel)
theorem dX12_outside_56 : decode cX12_outside 56 = .ok (.invokevirtual 257, 3) := dc_182 1 1 (by decide +kernel)
theorem kw_7_150 : (Jvm.Cond.methodLink "ParishUnionModel" (257 : Nat) ({ cls := "ParishUnionModel", name := "hungers", desc := "(II)V" } : Jvm.MethodName)) ∈ gT := gT_of (tb_7 _ (List.mem_of_getElem? (i := 150) rfl)) rfl
theorem kw_7_153 : (Jvm.Cond.code ({ cls := "ParishUnionModel", name := "hungers", desc := "(II)V" } : Jvm.MethodName) prog_14_method_74_code (4 : Nat) (Option.none : Option Jvm.ClassFile.FieldType)) ∈ gT := gT_of (tb_7 _ (List.mem_of_getElem? (i := 153) rfl)) rfl
theorem okX12_hungers : gQok yX12_hungers cX12_hungers 4 (Option.none : Option Jvm.ClassFile.FieldType) 2 := ⟨kw_7_153, kw_1_13, by decide +kernel, by decide +kernel, by decide +kernel⟩
theorem kw_7_152 : (Jvm.Cond.instanceMethod ({ cls := "ParishUnionModel", name := "hungers", desc := "(II)V" } : Jvm.MethodName)) ∈ gT := gT_of (tb_7 _ (List.mem_of_getElem? (i := 152) rfl)) rfl
theorem kw_0_78 : (Jvm.Cond.selects "ParishUnionModel" ({ cls := "ParishUnionModel", name := "hungers", desc := "(II)V" } : Jvm.MethodName) ({ cls := "ParishUnionModel", name := "hungers", desc := "(II)V" } : Jvm.MethodName)) ∈ gT := gT_of (tb_0 _ (List.mem_of_getElem? (i := 78) rfl)) rfl
theorem dX12_outside_59 : decode cX12_outside 59 = .ok (.aload_n 0, 1) := dc_42 (by decide +kernel)
theorem dX12_outside_60 : decode cX12_outside 60 = .ok (.bipush 8, 2) := dc_16 8 8 (by decide +kernel)
theorem dX12_outside_62 : decode cX12_outside 62 = .ok (.iload_n 2, 1) := dc_28 (by decide +kernel)
theorem dX12_outside_63 : decode cX12_outside 63 = .ok (.invokevirtual 239, 3) := dc_182 0 239 (by decide +kernel)
theorem dX12_outside_66 : decode cX12_outside 66 = .ok (.istore_n 3, 1) := dc_62 (by decide +kernel)
theorem dX12_outside_67 : decode cX12_outside 67 = .ok (.iload_n 3, 1) := dc_29 (by decide +kernel)
theorem dX12_outside_68 : decode cX12_outside 68 = .ok (.iconst (-1), 1) := dc_2 (by decide +kernel)
theorem dX12_outside_69 : decode cX12_outside 69 = .ok (.if_icmp .eq 41, 3) := dc_159 0 41 41 (by decide +kernel)
theorem dX12_outside_72 : decode cX12_outside 72 = .ok (.aload_n 0, 1) := dc_42 (by decide +kernel)
theorem dX12_outside_73 : decode cX12_outside 73 = .ok (.getfield 7, 3) := dc_180 0 7 (by decide +kernel)
theorem dX12_outside_76 : decode cX12_outside 76 = .ok (.sipush 3501, 3) := dc_17 13 173 3501 (by decide +kernel)
theorem dX12_outside_79 : decode cX12_outside 79 = .ok (.iload_n 1, 1) := dc_27 (by decide +kernel)
theorem dX12_outside_80 : decode cX12_outside 80 = .ok (.iadd, 1) := dc_96 (by decide +kernel)
theorem dX12_outside_81 : decode cX12_outside 81 = .ok (.dup2, 1) := dc_92 (by decide +kernel)
theorem dX12_outside_82 : decode cX12_outside 82 = .ok (.iaload, 1) := dc_46 (by decide +kernel)
theorem dX12_outside_83 : decode cX12_outside 83 = .ok (.iload_n 3, 1) := dc_29 (by decide +kernel)
theorem dX12_outside_84 : decode cX12_outside 84 = .ok (.iadd, 1) := dc_96 (by decide +kernel)
theorem dX12_outside_85 : decode cX12_outside 85 = .ok (.iastore, 1) := dc_79 (by decide +kernel)
theorem dX12_outside_86 : decode cX12_outside 86 = .ok (.aload_n 0, 1) := dc_42 (by decide +kernel)
theorem dX12_outside_87 : decode cX12_outside 87 = .ok (.getfield 7, 3) := dc_180 0 7 (by decide +kernel)
theorem dX12_outside_90 : decode cX12_outside 90 = .ok (.sipush 15032, 3) := dc_17 58 184 15032 (by decide +kernel)
theorem dX12_outside_93 : decode cX12_outside 93 = .ok (.sipush 301, 3) := dc_17 1 45 301 (by decide +kernel)
theorem dX12_outside_96 : decode cX12_outside 96 = .ok (.iload_n 2, 1) := dc_28 (by decide +kernel)
theorem dX12_outside_97 : decode cX12_outside 97 = .ok (.imul, 1) := dc_104 (by decide +kernel)
theorem dX12_outside_98 : decode cX12_outside 98 = .ok (.iadd, 1) := dc_96 (by decide +kernel)
theorem dX12_outside_99 : decode cX12_outside 99 = .ok (.iload_n 1, 1) := dc_27 (by decide +kernel)
theorem dX12_outside_100 : decode cX12_outside 100 = .ok (.iadd, 1) := dc_96 (by decide +kernel)
theorem dX12_outside_101 : decode cX12_outside 101 = .ok (.iload_n 3, 1) := dc_29 (by decide +kernel)
theorem dX12_outside_102 : decode cX12_outside 102 = .ok (.iastore, 1) := dc_79 (by decide +kernel)
theorem dX12_outside_103 : decode cX12_outside 103 = .ok (.aload_n 0, 1) := dc_42 (by decide +kernel)
theorem dX12_outside_104 : decode cX12_outside 104 = .ok (.iload_n 2, 1) := dc_28 (by decide +kernel)
theorem dX12_outside_105 : decode cX12_outside 105 = .ok (.bipush (-2), 2) := dc_16 254 (-2) (by decide +kernel)
theorem dX12_outside_107 : decode cX12_outside 107 = .ok (.invokevirtual 257, 3) := dc_182 1 1 (by decide +kernel)
theorem dX12_outside_116 : decode cX12_outside 116 = .ok (.iconst 0, 1) := dc_3 (by decide +kernel)
theorem dX12_outside_117 : decode cX12_outside 117 = .ok (.istore_n 2, 1) := dc_61 (by decide +kernel)
theorem dX12_outside_118 : decode cX12_outside 118 = .ok (.iload_n 2, 1) := dc_28 (by decide +kernel)
theorem dX12_outside_119 : decode cX12_outside 119 = .ok (.aload_n 0, 1) := dc_42 (by decide +kernel)
theorem dX12_outside_120 : decode cX12_outside 120 = .ok (.getfield 7, 3) := dc_180 0 7 (by decide +kernel)
theorem dX12_outside_123 : decode cX12_outside 123 = .ok (.iconst 1, 1) := dc_4 (by decide +kernel)
theorem dX12_outside_124 : decode cX12_outside 124 = .ok (.iaload, 1) := dc_46 (by decide +kernel)
theorem dX12_outside_125 : decode cX12_outside 125 = .ok (.if_icmp .ge 178, 3) := dc_162 0 178 178 (by decide +kernel)
theorem dX12_outside_303 : decode cX12_outside 303 = .ok (.return_, 1) := dc_177 (by decide +kernel)
theorem dX12_outside_128 : decode cX12_outside 128 = .ok (.aload_n 0, 1) := dc_42 (by decide +kernel)
theorem dX12_outside_129 : decode cX12_outside 129 = .ok (.getfield 7, 3) := dc_180 0 7 (by decide +kernel)
theorem dX12_outside_132 : decode cX12_outside 132 = .ok (.sipush 160, 3) := dc_17 0 160 160 (by decide +kernel)
theorem dX12_outside_135 : decode cX12_outside 135 = .ok (.iload_n 2, 1) := dc_28 (by decide +kernel)
theorem dX12_outside_136 : decode cX12_outside 136 = .ok (.iadd, 1) := dc_96 (by decide +kernel)
theorem dX12_outside_137 : decode cX12_outside 137 = .ok (.iaload, 1) := dc_46 (by decide +kernel)
theorem dX12_outside_138 : decode cX12_outside 138 = .ok (.bipush 6, 2) := dc_16 6 6 (by decide +kernel)
theorem dX12_outside_140 : decode cX12_outside 140 = .ok (.if_icmp .ge 157, 3) := dc_162 0 157 157 (by decide +kernel)
theorem dX12_outside_297 : decode cX12_outside 297 = .ok (.iinc 2 1, 3) := dc_132 2 1 1 (by decide +kernel)
theorem dX12_outside_300 : decode cX12_outside 300 = .ok (.goto (-182), 3) := dc_167 255 74 (-182) (by decide +kernel)
theorem dX12_outside_143 : decode cX12_outside 143 = .ok (.aload_n 0, 1) := dc_42 (by decide +kernel)
theorem dX12_outside_144 : decode cX12_outside 144 = .ok (.getfield 7, 3) := dc_180 0 7 (by decide +kernel)
theorem dX12_outside_147 : decode cX12_outside 147 = .ok (.sipush 176, 3) := dc_17 0 176 176 (by decide +kernel)
theorem dX12_outside_150 : decode cX12_outside 150 = .ok (.iload_n 2, 1) := dc_28 (by decide +kernel)
theorem dX12_outside_151 : decode cX12_outside 151 = .ok (.iadd, 1) := dc_96 (by decide +kernel)
theorem dX12_outside_152 : decode cX12_outside 152 = .ok (.iaload, 1) := dc_46 (by decide +kernel)
theorem dX12_outside_153 : decode cX12_outside 153 = .ok (.aload_n 0, 1) := dc_42 (by decide +kernel)
theorem dX12_outside_154 : decode cX12_outside 154 = .ok (.iconst 3, 1) := dc_6 (by decide +kernel)
theorem dX12_outside_155 : decode cX12_outside 155 = .ok (.iload_n 1, 1) := dc_27 (by decide +kernel)
theorem dX12_outside_156 : decode cX12_outside 156 = .ok (.invokevirtual 101, 3) := dc_182 0 101 (by decide +kernel)
theorem dX12_outside_159 : decode cX12_outside 159 = .ok (.aload_n 0, 1) := dc_42 (by decide +kernel)
theorem dX12_outside_160 : decode cX12_outside 160 = .ok (.aload_n 0, 1) := dc_42 (by decide +kernel)
theorem dX12_outside_161 : decode cX12_outside 161 = .ok (.getfield 7, 3) := dc_180 0 7 (by decide +kernel)
theorem dX12_outside_164 : decode cX12_outside 164 = .ok (.sipush 160, 3) := dc_17 0 160 160 (by decide +kernel)
theorem dX12_outside_167 : decode cX12_outside 167 = .ok (.iload_n 2, 1) := dc_28 (by decide +kernel)
theorem dX12_outside_168 : decode cX12_outside 168 = .ok (.iadd, 1) := dc_96 (by decide +kernel)
theorem dX12_outside_169 : decode cX12_outside 169 = .ok (.iaload, 1) := dc_46 (by decide +kernel)
theorem dX12_outside_170 : decode cX12_outside 170 = .ok (.iload_n 1, 1) := dc_27 (by decide +kernel)
theorem dX12_outside_171 : decode cX12_outside 171 = .ok (.invokevirtual 254, 3) := dc_182 0 254 (by decide +kernel)
theorem dX12_outside_174 : decode cX12_outside 174 = .ok (.iadd, 1) := dc_96 (by decide +kernel)
theorem dX12_outside_175 : decode cX12_outside 175 = .ok (.if_icmp .le 122, 3) := dc_164 0 122 122 (by decide +kernel)
theorem dX12_outside_178 : decode cX12_outside 178 = .ok (.aload_n 0, 1) := dc_42 (by decide +kernel)
theorem dX12_outside_179 : decode cX12_outside 179 = .ok (.getfield 7, 3) := dc_180 0 7 (by decide +kernel)
theorem dX12_outside_182 : decode cX12_outside 182 = .ok (.sipush 4705, 3) := dc_17 18 97 4705 (by decide +kernel)
theorem dX12_outside_185 : decode cX12_outside 185 = .ok (.iload_n 1, 1) := dc_27 (by decide +kernel)
theorem dX12_outside_186 : decode cX12_outside 186 = .ok (.iadd, 1) := dc_96 (by decide +kernel)
theorem dX12_outside_187 : decode cX12_outside 187 = .ok (.dup2, 1) := dc_92 (by decide +kernel)
theorem dX12_outside_188 : decode cX12_outside 188 = .ok (.iaload, 1) := dc_46 (by decide +kernel)
theorem dX12_outside_189 : decode cX12_outside 189 = .ok (.iconst 1, 1) := dc_4 (by decide +kernel)
theorem dX12_outside_190 : decode cX12_outside 190 = .ok (.iadd, 1) := dc_96 (by decide +kernel)
theorem dX12_outside_191 : decode cX12_outside 191 = .ok (.iastore, 1) := dc_79 (by decide +kernel)
theorem dX12_outside_192 : decode cX12_outside 192 = .ok (.aload_n 0, 1) := dc_42 (by decide +kernel)
theorem dX12_outside_193 : decode cX12_outside 193 = .ok (.getfield 7, 3) := dc_180 0 7 (by decide +kernel)
theorem dX12_outside_196 : decode cX12_outside 196 = .ok (.sipush 19848, 3) := dc_17 77 136 19848 (by decide +kernel)
theorem dX12_outside_199 : decode cX12_outside 199 = .ok (.sipush 301, 3) := dc_17 1 45 301 (by decide +kernel)
theorem dX12_outside_202 : decode cX12_outside 202 = .ok (.iload_n 2, 1) := dc_28 (by decide +kernel)
theorem dX12_outside_203 : decode cX12_outside 203 = .ok (.imul, 1) := dc_104 (by decide +kernel)
theorem dX12_outside_204 : decode cX12_outside 204 = .ok (.iadd, 1) := dc_96 (by decide +kernel)
theorem dX12_outside_205 : decode cX12_outside 205 = .ok (.iload_n 1, 1) := dc_27 (by decide +kernel)
theorem dX12_outside_206 : decode cX12_outside 206 = .ok (.iadd, 1) := dc_96 (by decide +kernel)
theorem dX12_outside_207 : decode cX12_outside 207 = .ok (.iconst 1, 1) := dc_4 (by decide +kernel)
theorem dX12_outside_208 : decode cX12_outside 208 = .ok (.iastore, 1) := dc_79 (by decide +kernel)
theorem dX12_outside_209 : decode cX12_outside 209 = .ok (.aload_n 0, 1) := dc_42 (by decide +kernel)
theorem dX12_outside_210 : decode cX12_outside 210 = .ok (.iload_n 2, 1) := dc_28 (by decide +kernel)
theorem dX12_outside_211 : decode cX12_outside 211 = .ok (.invokevirtual 242, 3) := dc_182 0 242 (by decide +kernel)
theorem dX12_outside_214 : decode cX12_outside 214 = .ok (.istore_n 3, 1) := dc_62 (by decide +kernel)
theorem dX12_outside_215 : decode cX12_outside 215 = .ok (.iload_n 3, 1) := dc_29 (by decide +kernel)
theorem dX12_outside_216 : decode cX12_outside 216 = .ok (.iconst (-1), 1) := dc_2 (by decide +kernel)
theorem dX12_outside_217 : decode cX12_outside 217 = .ok (.if_icmp .eq 66, 3) := dc_159 0 66 66 (by decide +kernel)
theorem dX12_outside_283 : decode cX12_outside 283 = .ok (.aload_n 0, 1) := dc_42 (by decide +kernel)
theorem dX12_outside_284 : decode cX12_outside 284 = .ok (.getfield 7, 3) := dc_180 0 7 (by decide +kernel)
theorem dX12_outside_287 : decode cX12_outside 287 = .ok (.sipush 3802, 3) := dc_17 14 218 3802 (by decide +kernel)
theorem dX12_outside_290 : decode cX12_outside 290 = .ok (.iload_n 1, 1) := dc_27 (by decide +kernel)
theorem dX12_outside_291 : decode cX12_outside 291 = .ok (.iadd, 1) := dc_96 (by decide +kernel)
theorem dX12_outside_292 : decode cX12_outside 292 = .ok (.dup2, 1) := dc_92 (by decide +kernel)
theorem dX12_outside_293 : decode cX12_outside 293 = .ok (.iaload, 1) := dc_46 (by decide +kernel)
theorem dX12_outside_294 : decode cX12_outside 294 = .ok (.iconst 1, 1) := dc_4 (by decide +kernel)
theorem dX12_outside_295 : decode cX12_outside 295 = .ok (.iadd, 1) := dc_96 (by decide +kernel)
theorem dX12_outside_296 : decode cX12_outside 296 = .ok (.iastore, 1) := dc_79 (by decide +kernel)
theorem dX12_outside_220 : decode cX12_outside 220 = .ok (.aload_n 0, 1) := dc_42 (by decide +kernel)
theorem dX12_outside_221 : decode cX12_outside 221 = .ok (.iload_n 3, 1) := dc_29 (by decide +kernel)
theorem dX12_outside_222 : decode cX12_outside 222 = .ok (.invokevirtual 260, 3) := dc_182 1 4 (by decide +kernel)
theorem kw_7_154 : (Jvm.Cond.methodLink "ParishUnionModel" (260 : Nat) ({ cls := "ParishUnionModel", name := "takenIn", desc := "(I)I" } : Jvm.MethodName)) ∈ gT := gT_of (tb_7 _ (List.mem_of_getElem? (i := 154) rfl)) rfl
theorem kw_7_157 : (Jvm.Cond.code ({ cls := "ParishUnionModel", name := "takenIn", desc := "(I)I" } : Jvm.MethodName) prog_14_method_72_code (4 : Nat) (Option.some Jvm.ClassFile.FieldType.int)) ∈ gT := gT_of (tb_7 _ (List.mem_of_getElem? (i := 157) rfl)) rfl
theorem okX12_takenIn : gQok yX12_takenIn cX12_takenIn 4 (Option.some Jvm.ClassFile.FieldType.int) 1 := ⟨kw_7_157, kw_1_13, by decide +kernel, by decide +kernel, by decide +kernel⟩
theorem kw_7_156 : (Jvm.Cond.instanceMethod ({ cls := "ParishUnionModel", name := "takenIn", desc := "(I)I" } : Jvm.MethodName)) ∈ gT := gT_of (tb_7 _ (List.mem_of_getElem? (i := 156) rfl)) rfl
theorem kw_0_79 : (Jvm.Cond.selects "ParishUnionModel" ({ cls := "ParishUnionModel", name := "takenIn", desc := "(I)I" } : Jvm.MethodName) ({ cls := "ParishUnionModel", name := "takenIn", desc := "(I)I" } : Jvm.MethodName)) ∈ gT := gT_of (tb_0 _ (List.mem_of_getElem? (i := 79) rfl)) rfl
theorem dX12_outside_225 : decode cX12_outside 225 = .ok (.aload_n 0, 1) := dc_42 (by decide +kernel)
theorem dX12_outside_226 : decode cX12_outside 226 = .ok (.getfield 7, 3) := dc_180 0 7 (by decide +kernel)
theorem dX12_outside_229 : decode cX12_outside 229 = .ok (.bipush 60, 2) := dc_16 60 60 (by decide +kernel)
theorem dX12_outside_231 : decode cX12_outside 231 = .ok (.iload_n 3, 1) := dc_29 (by decide +kernel)
theorem dX12_outside_232 : decode cX12_outside 232 = .ok (.iadd, 1) := dc_96 (by decide +kernel)
theorem dX12_outside_233 : decode cX12_outside 233 = .ok (.iaload, 1) := dc_46 (by decide +kernel)
theorem rsp_0_24700 {sz : Nat} {M : gM} {k : Int} (I : gI sz M) (h1 : (191 : Int) < (sz : Int)) (h : 0 ≤ k ∧ k < 24700) : ∃ v : Int, M 191 k = v ∧ (-2147483648 ≤ v ∧ v ≤ 2147483647) := by
  rcases (by omega : (0 ≤ k ∧ k < 1) ∨ (1 ≤ k ∧ k < 2) ∨ (2 ≤ k ∧ k < 3) ∨ (3 ≤ k ∧ k < 4) ∨ (4 ≤ k ∧ k < 5) ∨ (5 ≤ k ∧ k < 6) ∨ (6 ≤ k ∧ k < 7) ∨ (7 ≤ k ∧ k < 8) ∨ (8 ≤ k ∧ k < 9) ∨ (9 ≤ k ∧ k < 10) ∨ (10 ≤ k ∧ k < 16) ∨ (16 ≤ k ∧ k < 24) ∨ (24 ≤ k ∧ k < 60) ∨ (60 ≤ k ∧ k < 64) ∨ (64 ≤ k ∧ k < 80) ∨ (80 ≤ k ∧ k < 96) ∨ (96 ≤ k ∧ k < 112) ∨ (112 ≤ k ∧ k < 128) ∨ (128 ≤ k ∧ k < 144) ∨ (144 ≤ k ∧ k < 160) ∨ (160 ≤ k ∧ k < 176) ∨ (176 ≤ k ∧ k < 208) ∨ (208 ≤ k ∧ k < 224) ∨ (224 ≤ k ∧ k < 240) ∨ (240 ≤ k ∧ k < 256) ∨ (256 ≤ k ∧ k < 296) ∨ (296 ≤ k ∧ k < 336) ∨ (336 ≤ k ∧ k < 376) ∨ (376 ≤ k ∧ k < 416) ∨ (416 ≤ k ∧ k < 456) ∨ (456 ≤ k ∧ k < 496) ∨ (496 ≤ k ∧ k < 576) ∨ (576 ≤ k ∧ k < 656) ∨ (656 ≤ k ∧ k < 668) ∨ (668 ≤ k ∧ k < 680) ∨ (680 ≤ k ∧ k < 2340) ∨ (2340 ≤ k ∧ k < 2360) ∨ (2360 ≤ k ∧ k < 2380) ∨ (2380 ≤ k ∧ k < 2400) ∨ (2400 ≤ k ∧ k < 2420) ∨ (2420 ≤ k ∧ k < 2440) ∨ (2440 ≤ k ∧ k < 2480) ∨ (2480 ≤ k ∧ k < 2520) ∨ (2520 ≤ k ∧ k < 2560) ∨ (2560 ≤ k ∧ k < 2566) ∨ (2566 ≤ k ∧ k < 2580) ∨ (2580 ≤ k ∧ k < 2584) ∨ (2584 ≤ k ∧ k < 2620) ∨ (2620 ≤ k ∧ k < 2770) ∨ (2770 ≤ k ∧ k < 2800) ∨ (2800 ≤ k ∧ k < 3200) ∨ (3200 ≤ k ∧ k < 5400) ∨ (5400 ≤ k ∧ k < 24700)) with h | h | h | h | h | h | h | h | h | h | h | h | h | h | h | h | h | h | h | h | h | h | h | h | h | h | h | h | h | h | h | h | h | h | h | h | h | h | h | h | h | h | h | h | h | h | h | h | h | h | h | h | h
  · obtain ⟨v, hv, rv⟩ := gRd I (by decide) h1 (rs_NOW h).1
    exact ⟨v, hv, by omega⟩
  · obtain ⟨v, hv, rv⟩ := gRd I (by decide) h1 (rs_PERS h).1
    exact ⟨v, hv, by omega⟩
  · obtain ⟨v, hv, rv⟩ := gRd I (by decide) h1 (rs_NR h).1
    exact ⟨v, hv, by omega⟩
  · obtain ⟨v, hv, rv⟩ := gRd I (by decide) h1 (rs_NE h).1
    exact ⟨v, hv, by omega⟩
  · obtain ⟨v, hv, rv⟩ := gRd I (by decide) h1 (rs_NA h).1
    exact ⟨v, hv, by omega⟩
  · obtain ⟨v, hv, rv⟩ := gRd I (by decide) h1 (rs_NO h).1
    exact ⟨v, hv, by omega⟩
  · obtain ⟨v, hv, rv⟩ := gRd I (by decide) h1 (rs_NN h).1
    exact ⟨v, hv, by omega⟩
  · obtain ⟨v, hv, rv⟩ := gRd I (by decide) h1 (rs_NC h).1
    exact ⟨v, hv, by omega⟩
  · obtain ⟨v, hv, rv⟩ := gRd I (by decide) h1 (rs_STORE h).1
    exact ⟨v, hv, by omega⟩
  · obtain ⟨v, hv, rv⟩ := gRd I (by decide) h1 (rs_PRICE h).1
    exact ⟨v, hv, by omega⟩
  · obtain ⟨v, hv, rv⟩ := gRd I (by decide) h1 (rs_TAPED h).1
    exact ⟨v, hv, by omega⟩
  · obtain ⟨v, hv, rv⟩ := gRd I (by decide) h1 (rs_RENT h).1
    exact ⟨v, hv, by omega⟩
  · obtain ⟨v, hv, rv⟩ := gRd I (by decide) h1 (rs_ROAD h).1
    exact ⟨v, hv, by omega⟩
  · obtain ⟨v, hv, rv⟩ := gRd I (by decide) h1 (rs_BED h).1
    exact ⟨v, hv, by omega⟩
  · obtain ⟨v, hv, rv⟩ := gRd I (by decide) h1 (rs_ROOM h).1
    exact ⟨v, hv, by omega⟩
  · obtain ⟨v, hv, rv⟩ := gRd I (by decide) h1 (rs_SEX h).1
    exact ⟨v, hv, by omega⟩
  · obtain ⟨v, hv, rv⟩ := gRd I (by decide) h1 (rs_BORN h).1
    exact ⟨v, hv, by omega⟩
  · obtain ⟨v, hv, rv⟩ := gRd I (by decide) h1 (rs_HOME h).1
    exact ⟨v, hv, by omega⟩
  · obtain ⟨v, hv, rv⟩ := gRd I (by decide) h1 (rs_FATHER h).1
    exact ⟨v, hv, by omega⟩
  · obtain ⟨v, hv, rv⟩ := gRd I (by decide) h1 (rs_STRONG h).1
    exact ⟨v, hv, by omega⟩
  · obtain ⟨v, hv, rv⟩ := gRd I (by decide) h1 (rs_AT h).1
    exact ⟨v, hv, by omega⟩
  · obtain ⟨v, hv, rv⟩ := gRd I (by decide) h1 (rs_HUNGER h).1
    exact ⟨v, hv, by omega⟩
  · obtain ⟨v, hv, rv⟩ := gRd I (by decide) h1 (rs_WARD h).1
    exact ⟨v, hv, by omega⟩
  · obtain ⟨v, hv, rv⟩ := gRd I (by decide) h1 (rs_MASTER h).1
    exact ⟨v, hv, by omega⟩
  · obtain ⟨v, hv, rv⟩ := gRd I (by decide) h1 (rs_CAME h).1
    exact ⟨v, hv, by omega⟩
  · obtain ⟨v, hv, rv⟩ := gRd I (by decide) h1 (rs_RKIND h).1
    exact ⟨v, hv, by omega⟩
  · obtain ⟨v, hv, rv⟩ := gRd I (by decide) h1 (rs_RWHO h).1
    exact ⟨v, hv, by omega⟩
  · obtain ⟨v, hv, rv⟩ := gRd I (by decide) h1 (rs_RTO h).1
    exact ⟨v, hv, by omega⟩
  · obtain ⟨v, hv, rv⟩ := gRd I (by decide) h1 (rs_RN h).1
    exact ⟨v, hv, by omega⟩
  · obtain ⟨v, hv, rv⟩ := gRd I (by decide) h1 (rs_RWEEK h).1
    exact ⟨v, hv, by omega⟩
  · obtain ⟨v, hv, rv⟩ := gRd I (by decide) h1 (rs_RSURE h).1
    exact ⟨v, hv, by omega⟩
  · obtain ⟨v, hv, rv⟩ := gRd I (by decide) h1 (rs_EKIND h).1
    exact ⟨v, hv, by omega⟩
  · obtain ⟨v, hv, rv⟩ := gRd I (by decide) h1 (rs_ERIGHT h).1
    exact ⟨v, hv, by omega⟩
  · obtain ⟨v, hv, rv⟩ := gRd I (by decide) h1 (rs_AWEEK h).1
    exact ⟨v, hv, by omega⟩
  · obtain ⟨v, hv, rv⟩ := gRd I (by decide) h1 (rs_ALONG h).1
    exact ⟨v, hv, by omega⟩
  · obtain ⟨v, hv, rv⟩ := gRd I (by decide) h1 (rs_ATEXT h).1
    exact ⟨v, hv, by omega⟩
  · obtain ⟨v, hv, rv⟩ := gRd I (by decide) h1 (rs_OWHO h).1
    exact ⟨v, hv, by omega⟩
  · obtain ⟨v, hv, rv⟩ := gRd I (by decide) h1 (rs_OFROM h).1
    exact ⟨v, hv, by omega⟩
  · obtain ⟨v, hv, rv⟩ := gRd I (by decide) h1 (rs_OTO h).1
    exact ⟨v, hv, by omega⟩
  · obtain ⟨v, hv, rv⟩ := gRd I (by decide) h1 (rs_OWEEK h).1
    exact ⟨v, hv, by omega⟩
  · obtain ⟨v, hv, rv⟩ := gRd I (by decide) h1 (rs_ODONE h).1
    exact ⟨v, hv, by omega⟩
  · obtain ⟨v, hv, rv⟩ := gRd I (by decide) h1 (rs_NNAME h).1
    exact ⟨v, hv, by omega⟩
  · obtain ⟨v, hv, rv⟩ := gRd I (by decide) h1 (rs_NAT h).1
    exact ⟨v, hv, by omega⟩
  · obtain ⟨v, hv, rv⟩ := gRd I (by decide) h1 (rs_NWEEK h).1
    exact ⟨v, hv, by omega⟩
  · obtain ⟨v, hv, rv⟩ := gRd I (by decide) h1 (rs_CK h).1
    exact ⟨v, hv, by omega⟩
  · obtain ⟨v, hv, rv⟩ := gRd I (by decide) h1 (rs_CN h).1
    exact ⟨v, hv, by omega⟩
  · obtain ⟨v, hv, rv⟩ := gRd I (by decide) h1 (rs_FMANY h).1
    exact ⟨v, hv, by omega⟩
  · obtain ⟨v, hv, rv⟩ := gRd I (by decide) h1 (rs_FROW h).1
    exact ⟨v, hv, by omega⟩
  · obtain ⟨v, hv, rv⟩ := gRd I (by decide) h1 (rs_TAPE h).1
    exact ⟨v, hv, by omega⟩
  · obtain ⟨v, hv, rv⟩ := gRd I (by decide) h1 (rs_TOLD h).1
    exact ⟨v, hv, by omega⟩
  · obtain ⟨v, hv, rv⟩ := gRd I (by decide) h1 (rs_FROST h).1
    exact ⟨v, hv, by omega⟩
  · obtain ⟨v, hv, rv⟩ := gRd I (by decide) h1 (rs_G h).1
    exact ⟨v, hv, by omega⟩
  · obtain ⟨v, hv, rv⟩ := gRd I (by decide) h1 (rs_W h).1
    exact ⟨v, hv, by omega⟩
theorem dX12_outside_234 : decode cX12_outside 234 = .ok (.if_icmp .ge 49, 3) := dc_162 0 49 49 (by decide +kernel)
theorem dX12_outside_237 : decode cX12_outside 237 = .ok (.aload_n 0, 1) := dc_42 (by decide +kernel)
theorem dX12_outside_238 : decode cX12_outside 238 = .ok (.getfield 7, 3) := dc_180 0 7 (by decide +kernel)
theorem dX12_outside_241 : decode cX12_outside 241 = .ok (.sipush 240, 3) := dc_17 0 240 240 (by decide +kernel)
theorem dX12_outside_244 : decode cX12_outside 244 = .ok (.iload_n 2, 1) := dc_28 (by decide +kernel)
theorem dX12_outside_245 : decode cX12_outside 245 = .ok (.iadd, 1) := dc_96 (by decide +kernel)
theorem dX12_outside_246 : decode cX12_outside 246 = .ok (.aload_n 0, 1) := dc_42 (by decide +kernel)
theorem dX12_outside_247 : decode cX12_outside 247 = .ok (.getfield 7, 3) := dc_180 0 7 (by decide +kernel)
theorem dX12_outside_250 : decode cX12_outside 250 = .ok (.sipush 160, 3) := dc_17 0 160 160 (by decide +kernel)
theorem dX12_outside_253 : decode cX12_outside 253 = .ok (.iload_n 2, 1) := dc_28 (by decide +kernel)
theorem dX12_outside_254 : decode cX12_outside 254 = .ok (.iadd, 1) := dc_96 (by decide +kernel)
theorem dX12_outside_255 : decode cX12_outside 255 = .ok (.iaload, 1) := dc_46 (by decide +kernel)
theorem dX12_outside_256 : decode cX12_outside 256 = .ok (.iastore, 1) := dc_79 (by decide +kernel)
theorem dX12_outside_257 : decode cX12_outside 257 = .ok (.aload_n 0, 1) := dc_42 (by decide +kernel)
theorem dX12_outside_258 : decode cX12_outside 258 = .ok (.getfield 7, 3) := dc_180 0 7 (by decide +kernel)
theorem dX12_outside_261 : decode cX12_outside 261 = .ok (.sipush 160, 3) := dc_17 0 160 160 (by decide +kernel)
theorem dX12_outside_264 : decode cX12_outside 264 = .ok (.iload_n 2, 1) := dc_28 (by decide +kernel)
theorem dX12_outside_265 : decode cX12_outside 265 = .ok (.iadd, 1) := dc_96 (by decide +kernel)
theorem dX12_outside_266 : decode cX12_outside 266 = .ok (.bipush 6, 2) := dc_16 6 6 (by decide +kernel)
theorem dX12_outside_268 : decode cX12_outside 268 = .ok (.iastore, 1) := dc_79 (by decide +kernel)
theorem dX12_outside_269 : decode cX12_outside 269 = .ok (.aload_n 0, 1) := dc_42 (by decide +kernel)
theorem dX12_outside_270 : decode cX12_outside 270 = .ok (.getfield 7, 3) := dc_180 0 7 (by decide +kernel)
theorem dX12_outside_273 : decode cX12_outside 273 = .ok (.sipush 208, 3) := dc_17 0 208 208 (by decide +kernel)
theorem dX12_outside_276 : decode cX12_outside 276 = .ok (.iload_n 2, 1) := dc_28 (by decide +kernel)
theorem dX12_outside_277 : decode cX12_outside 277 = .ok (.iadd, 1) := dc_96 (by decide +kernel)
theorem dX12_outside_278 : decode cX12_outside 278 = .ok (.iload_n 3, 1) := dc_29 (by decide +kernel)
theorem dX12_outside_279 : decode cX12_outside 279 = .ok (.iastore, 1) := dc_79 (by decide +kernel)
theorem dX12_outside_280 : decode cX12_outside 280 = .ok (.goto 17, 3) := dc_167 0 17 17 (by decide +kernel)
abbrev R_X12_outside : Room := { frames := 133, cells := 0, slots := 0, locals := 5627 }
set_option maxRecDepth 100000 in
set_option maxHeartbeats 4000000 in
theorem s_X12_outside {l : Launch} {n0 : Nat} {D : va_G} {cA : Nat → ClassId} {M : gM} (a : Int) (r_a : 0 ≤ a ∧ a ≤ 299) {sz : Nat} (hsz : 206 ≤ sz) (I : gI sz M) (C : gC sz M) (W : gW 191 M)  : Met l yX12_outside (gWsOf yX12_outside cX12_outside 4 (Option.none : Option Jvm.ClassFile.FieldType)) R_X12_outside (gPc n0 D cA [gA n0 190, gJ a] M sz) (gQv n0 D cA sz (fun M1 => gI sz M1 ∧ gC sz M1 ∧ gFr 2475884179513678336259784704 M M1)) 0 0 (fun q => n0 ≤ q) := by
  refine gMetV [gA n0 190, gJ a] (by decide) (Nat.le_of_ble_eq_true rfl) ⟨rfl, rfl⟩ ?_
  intro p e s m args below meth cd Q X hq
  have X : gCx p s m args meth cd n0 D cA "ParishUnionModel" cX12_outside 4 := X
  show G p l e R_X12_outside s m args below meth cd n0 D cA 4 Q 0 0 M sz 0 [(0, gA n0 190), (1, gJ a)] []
  obtain ⟨v1, hv1, rv1⟩ := gRd I (by decide) (gsz hsz (by decide)) (rs_PERS (k := 1) (by omega)).1
  refine g_iconst (n := 1) X dX12_outside_0 rfl ?_
  refine g_istore_n (n := 2) (L' := [(2, gJ 0), (0, gA n0 190), (1, gJ a)]) X dX12_outside_1 rfl (by decide) rfl rfl ?_
  have j4 : ∀ (N4275 : Nat) (v2 : Int) (M3 : gM) , (0 ≤ v2 ∧ v2 ≤ 16) → gI sz M3 → gC sz M3 → gFr 2475884179513678336259784704 M M3 → (16 - v2).toNat < N4275 → G p l e R_X12_outside s m args below meth cd n0 D cA 4 Q 0 0 M3 sz 2 [(0, gA n0 190), (1, gJ a), (2, gJ v2)] [] := by
    intro N4275; induction N4275 with
    | zero => intro v2 M3 rv2 IM3 CM3 FM3 hm4277; exfalso; omega
    | succ N4275 ih4276 =>
      intro v2 M3 rv2 IM3 CM3 FM3 hm4277
      refine g_iload_n (n := 3) X 2 dX12_outside_2 rfl rfl rfl ?_
      refine g_aload_n (n := 4) X 0 dX12_outside_3 rfl rfl rfl ?_
      refine gg_12_1 (n := 7) (z := 191) X (by decide) (gsz hsz (by decide)) lay_190 kw_6_27 dX12_outside_4 rfl (rf_190_1 IM3 (gsz hsz (by decide))) (by decide) ?_
      refine g_iconst (n := 8) X dX12_outside_7 rfl ?_
      refine g_iald2 (n := 9) (v := v1) X (by decide) (gsz hsz (by decide)) lay_191 (by omega) (by omega) (by decide) dX12_outside_8 rfl ((gFr.at FM3 (rs_PERS (k := 1) (by omega)).2.2 rfl).trans hv1) ?_
      refine g_icmp_ge (n := 12) (tgt := 116) X dX12_outside_9 (by decide) (by omega) (by omega) rfl (fun c4278 => ?_) (fun c4278 => ?_)
      · refine g_iconst (n := 117) X dX12_outside_116 rfl ?_
        refine g_istore_n (n := 118) (L' := [(2, gJ 0), (0, gA n0 190), (1, gJ a)]) X dX12_outside_117 rfl (by decide) rfl rfl ?_
        have j4305 : ∀ (N4798 : Nat) (v4303 : Int) (M4304 : gM) , (0 ≤ v4303 ∧ v4303 ≤ 16) → gI sz M4304 → gC sz M4304 → gFr 2475884179513678336259784704 M3 M4304 → (16 - v4303).toNat < N4798 → G p l e R_X12_outside s m args below meth cd n0 D cA 4 Q 0 0 M4304 sz 118 [(0, gA n0 190), (1, gJ a), (2, gJ v4303)] [] := by
          intro N4798; induction N4798 with
          | zero => intro v4303 M4304 rv4303 IM4304 CM4304 FM4304 hm4800; exfalso; omega
          | succ N4798 ih4799 =>
            intro v4303 M4304 rv4303 IM4304 CM4304 FM4304 hm4800
            refine g_iload_n (n := 119) X 2 dX12_outside_118 rfl rfl rfl ?_
            refine g_aload_n (n := 120) X 0 dX12_outside_119 rfl rfl rfl ?_
            refine gg_12_1 (n := 123) (z := 191) X (by decide) (gsz hsz (by decide)) lay_190 kw_6_27 dX12_outside_120 rfl (rf_190_1 IM4304 (gsz hsz (by decide))) (by decide) ?_
            refine g_iconst (n := 124) X dX12_outside_123 rfl ?_
            refine g_iald2 (n := 125) (v := v1) X (by decide) (gsz hsz (by decide)) lay_191 (by omega) (by omega) (by decide) dX12_outside_124 rfl ((gFr.at FM4304 (rs_PERS (k := 1) (by omega)).2.2 rfl).trans ((gFr.at FM3 (rs_PERS (k := 1) (by omega)).2.2 rfl).trans hv1)) ?_
            refine g_icmp_ge (n := 128) (tgt := 303) X dX12_outside_125 (by decide) (by omega) (by omega) rfl (fun c4801 => ?_) (fun c4801 => ?_)
            · exact hq _ _ _ dX12_outside_303 ⟨IM4304, CM4304, (gFr.c (gFr.c gFr.rf FM3 rfl) FM4304 rfl)⟩
            · refine g_aload_n (n := 129) X 0 dX12_outside_128 rfl rfl rfl ?_
              refine gg_12_1 (n := 132) (z := 191) X (by decide) (gsz hsz (by decide)) lay_190 kw_6_27 dX12_outside_129 rfl (rf_190_1 IM4304 (gsz hsz (by decide))) (by decide) ?_
              refine g_sipush (n := 135) X dX12_outside_132 (by decide +kernel) rfl ?_
              refine g_iload_n (n := 136) X 2 dX12_outside_135 rfl rfl rfl ?_
              refine g_iadd (n := 137) (z := v4303 + 160) X dX12_outside_136 (by omega) rfl ?_
              obtain ⟨v4802, hv4802, rv4802⟩ := gRd IM4304 (by decide) (gsz hsz (by decide)) (rs_AT (k := v4303 + 160) (by omega)).1
              refine g_iald2 (n := 138) (v := v4802) X (by decide) (gsz hsz (by decide)) lay_191 (by omega) (by omega) (by decide) dX12_outside_137 rfl hv4802 ?_
              refine g_bipush (n := 140) X dX12_outside_138 (by decide +kernel) rfl ?_
              refine g_icmp_ge (n := 143) (tgt := 297) X dX12_outside_140 (by decide) (by omega) (by omega) rfl (fun c4803 => ?_) (fun c4803 => ?_)
              · refine g_iinc (n := 300) (w := v4303 + 1) (L' := [(2, gJ (v4303 + 1)), (0, gA n0 190), (1, gJ a)]) X 2 dX12_outside_297 rfl rfl (by decide) rfl rfl ?_
                refine g_goto (tgt := 118) X dX12_outside_300 (by decide) ?_
                refine G.sub (L' := [(0, gA n0 190), (1, gJ a), (2, gJ (v4303 + 1))]) [1, 2, 0] rfl ?_
                exact ih4799 (v4303 + 1) M4304 (by omega) IM4304 CM4304 (gFr.c gFr.rf FM4304 rfl) (by omega)
              · refine g_aload_n (n := 144) X 0 dX12_outside_143 rfl rfl rfl ?_
                refine gg_12_1 (n := 147) (z := 191) X (by decide) (gsz hsz (by decide)) lay_190 kw_6_27 dX12_outside_144 rfl (rf_190_1 IM4304 (gsz hsz (by decide))) (by decide) ?_
                refine g_sipush (n := 150) X dX12_outside_147 (by decide +kernel) rfl ?_
                refine g_iload_n (n := 151) X 2 dX12_outside_150 rfl rfl rfl ?_
                refine g_iadd (n := 152) (z := v4303 + 176) X dX12_outside_151 (by omega) rfl ?_
                obtain ⟨v4804, hv4804, rv4804⟩ := gRd IM4304 (by decide) (gsz hsz (by decide)) (rs_HUNGER (k := v4303 + 176) (by omega)).1
                refine g_iald2 (n := 153) (v := v4804) X (by decide) (gsz hsz (by decide)) lay_191 (by omega) (by omega) (by decide) dX12_outside_152 rfl hv4804 ?_
                refine g_aload_n (n := 154) X 0 dX12_outside_153 rfl rfl rfl ?_
                refine g_iconst (n := 155) X dX12_outside_154 rfl ?_
                refine g_iload_n (n := 156) X 1 dX12_outside_155 rfl rfl rfl ?_
                refine g_callVi (n := 159) (As := [gJ 3, gJ a]) (rest := [gJ v4804]) (cs1 := 0) (ss1 := 0) X (s_X12_law 3 (by omega) a (by omega) hsz IM4304 CM4304 ) okX12_law kw_6_193 ⟨kw_6_195, kw_0_49⟩ ⟨rfl, rfl⟩ ⟨Nat.le_of_ble_eq_true rfl, Nat.le_of_ble_eq_true rfl⟩ rfl (by decide) (gsz hsz (by decide)) lay_190 rfl rfl (Nat.le_of_ble_eq_true rfl) ⟨Nat.le_of_ble_eq_true rfl, Nat.le_of_ble_eq_true rfl⟩ rfl rfl dX12_outside_156 rfl (fun v4805 M4806 P4807 => ?_)
                obtain ⟨rfl, rv4805⟩ := P4807
                refine g_aload_n (n := 160) X 0 dX12_outside_159 rfl rfl rfl ?_
                refine g_aload_n (n := 161) X 0 dX12_outside_160 rfl rfl rfl ?_
                refine gg_12_1 (n := 164) (z := 191) X (by decide) (gsz hsz (by decide)) lay_190 kw_6_27 dX12_outside_161 rfl (rf_190_1 IM4304 (gsz hsz (by decide))) (by decide) ?_
                refine g_sipush (n := 167) X dX12_outside_164 (by decide +kernel) rfl ?_
                refine g_iload_n (n := 168) X 2 dX12_outside_167 rfl rfl rfl ?_
                refine g_iadd (n := 169) (z := v4303 + 160) X dX12_outside_168 (by omega) rfl ?_
                refine g_iald2 (n := 170) (v := v4802) X (by decide) (gsz hsz (by decide)) lay_191 (by omega) (by omega) (by decide) dX12_outside_169 rfl hv4802 ?_
                refine g_iload_n (n := 171) X 1 dX12_outside_170 rfl rfl rfl ?_
                refine g_callVi (n := 174) (As := [gJ v4802, gJ a]) (rest := [gJ v4805, gJ v4804]) (cs1 := 0) (ss1 := 0) X (s_X12_heardIn v4802 (by omega) a (by omega) hsz IM4304 CM4304 ) okX12_heardIn kw_7_134 ⟨kw_7_136, kw_0_75⟩ ⟨rfl, rfl⟩ ⟨Nat.le_of_ble_eq_true rfl, Nat.le_of_ble_eq_true rfl⟩ rfl (by decide) (gsz hsz (by decide)) lay_190 rfl rfl (Nat.le_of_ble_eq_true rfl) ⟨Nat.le_of_ble_eq_true rfl, Nat.le_of_ble_eq_true rfl⟩ rfl rfl dX12_outside_171 rfl (fun v4808 M4809 P4810 => ?_)
                obtain ⟨rfl, rv4808⟩ := P4810
                refine g_iaddA (n := 175) X dX12_outside_174 rfl (fun v4811 rv4811 xv4811 => ?_)
                clear xv4811
                refine g_icmp_le (n := 178) (tgt := 297) X dX12_outside_175 (by decide) (by omega) (by omega) rfl (fun c4812 => ?_) (fun c4812 => ?_)
                · refine g_iinc (n := 300) (w := v4303 + 1) (L' := [(2, gJ (v4303 + 1)), (0, gA n0 190), (1, gJ a)]) X 2 dX12_outside_297 rfl rfl (by decide) rfl rfl ?_
                  refine g_goto (tgt := 118) X dX12_outside_300 (by decide) ?_
                  refine G.sub (L' := [(0, gA n0 190), (1, gJ a), (2, gJ (v4303 + 1))]) [1, 2, 0] rfl ?_
                  exact ih4799 (v4303 + 1) M4304 (by omega) IM4304 CM4304 (gFr.c gFr.rf FM4304 rfl) (by omega)
                · refine g_aload_n (n := 179) X 0 dX12_outside_178 rfl rfl rfl ?_
                  refine gg_12_1 (n := 182) (z := 191) X (by decide) (gsz hsz (by decide)) lay_190 kw_6_27 dX12_outside_179 rfl (rf_190_1 IM4304 (gsz hsz (by decide))) (by decide) ?_
                  refine g_sipush (n := 185) X dX12_outside_182 (by decide +kernel) rfl ?_
                  refine g_iload_n (n := 186) X 1 dX12_outside_185 rfl rfl rfl ?_
                  refine g_iadd (n := 187) (z := a + 4705) X dX12_outside_186 (by omega) rfl ?_
                  refine g_dup2 (n := 188) X dX12_outside_187 rfl rfl rfl ?_
                  obtain ⟨v4813, hv4813, rv4813⟩ := gRd IM4304 (by decide) (gsz hsz (by decide)) (rs_G (k := a + 4705) (by omega)).1
                  refine g_iald2 (n := 189) (v := v4813) X (by decide) (gsz hsz (by decide)) lay_191 (by omega) (by omega) (by decide) dX12_outside_188 rfl hv4813 ?_
                  refine g_iconst (n := 190) X dX12_outside_189 rfl ?_
                  refine g_iaddA (n := 191) X dX12_outside_190 rfl (fun v4814 rv4814 xv4814 => ?_)
                  clear xv4814
                  refine g_iast (n := 192) X (by decide) (gsz hsz (by decide)) lay_191 (by omega) (by omega) (by decide) dX12_outside_191 rfl ?_
                  refine G.nm (fun M4815 e4816 => ?_)
                  have IM4815 : gI sz M4815 := gI.set IM4304 (rs_G (k := a + 4705) (by omega)).1 (by omega) e4816
                  have CM4815 : gC sz M4815 := gC.set CM4304 (rs_G (k := a + 4705) (by omega)).2.1 e4816
                  refine g_aload_n (n := 193) X 0 dX12_outside_192 rfl rfl rfl ?_
                  refine gg_12_1 (n := 196) (z := 191) X (by decide) (gsz hsz (by decide)) lay_190 kw_6_27 dX12_outside_193 rfl (rf_190_1 IM4815 (gsz hsz (by decide))) (by decide) ?_
                  refine g_sipush (n := 199) X dX12_outside_196 (by decide +kernel) rfl ?_
                  refine g_sipush (n := 202) X dX12_outside_199 (by decide +kernel) rfl ?_
                  refine g_iload_n (n := 203) X 2 dX12_outside_202 rfl rfl rfl ?_
                  refine g_imul (n := 204) (z := 301 * v4303) X dX12_outside_203 rfl rfl ?_
                  refine g_iadd (n := 205) (z := 19848 + (301 * v4303)) X dX12_outside_204 rfl rfl ?_
                  refine g_iload_n (n := 206) X 1 dX12_outside_205 rfl rfl rfl ?_
                  refine g_iadd (n := 207) (z := (19848 + (301 * v4303)) + a) X dX12_outside_206 rfl rfl ?_
                  refine g_iconst (n := 208) X dX12_outside_207 rfl ?_
                  refine g_iast (n := 209) X (by decide) (gsz hsz (by decide)) lay_191 (by omega) (by omega) (by decide) dX12_outside_208 rfl ?_
                  refine G.nm (fun M4817 e4818 => ?_)
                  have IM4817 : gI sz M4817 := gI.set IM4815 (rs_W (k := (19848 + (301 * v4303)) + a) (by omega)).1 (by omega) e4818
                  have CM4817 : gC sz M4817 := gC.set CM4815 (rs_W (k := (19848 + (301 * v4303)) + a) (by omega)).2.1 e4818
                  refine g_aload_n (n := 210) X 0 dX12_outside_209 rfl rfl rfl ?_
                  refine g_iload_n (n := 211) X 2 dX12_outside_210 rfl rfl rfl ?_
                  refine g_callVi (n := 214) (As := [gJ v4303]) (rest := []) (cs1 := 0) (ss1 := 0) X (s_X12_wardFor v4303 (by omega) hsz IM4817 CM4817 (gW.fr (S := 2475884179513678336259784704) W ⟨sz, hsz, I⟩ (gFr.s (gFr.s (gFr.c (gFr.c gFr.rf FM3 rfl) FM4304 rfl) e4816 (rs_G (k := a + 4705) (by omega)).2.2 rfl) e4818 (rs_W (k := (19848 + (301 * v4303)) + a) (by omega)).2.2 rfl) rfl) (by have q2 := ((congrFun (congrFun e4818 _) _).trans ((gset_ne (by omega)).trans ((congrFun (congrFun e4816 _) _).trans ((gset_ne (by omega)).trans ((gFr.at FM4304 (rs_PERS (k := 1) (by omega)).2.2 rfl).trans ((gFr.at FM3 (rs_PERS (k := 1) (by omega)).2.2 rfl).trans hv1)))))); omega)) okX12_wardFor kw_7_82 ⟨kw_7_84, kw_0_70⟩ ⟨rfl, rfl⟩ ⟨Nat.le_of_ble_eq_true rfl, Nat.le_of_ble_eq_true rfl⟩ rfl (by decide) (gsz hsz (by decide)) lay_190 rfl rfl (Nat.le_of_ble_eq_true rfl) ⟨Nat.le_of_ble_eq_true rfl, Nat.le_of_ble_eq_true rfl⟩ rfl rfl dX12_outside_211 rfl (fun v4819 M4820 P4821 => ?_)
                  obtain ⟨rv4819, IM4820, CM4820, FM4820⟩ := P4821
                  refine g_istore_n (n := 215) (L' := [(3, gJ v4819), (0, gA n0 190), (1, gJ a), (2, gJ v4303)]) X dX12_outside_214 rfl (by decide) rfl rfl ?_
                  refine g_iload_n (n := 216) X 0 dX12_outside_215 rfl rfl rfl ?_
                  refine g_iconst (n := 217) X dX12_outside_216 rfl ?_
                  refine g_icmp_eq (n := 220) (tgt := 283) X dX12_outside_217 (by decide) (by omega) (by omega) rfl (fun c4822 => ?_) (fun c4822 => ?_)
                  · refine g_aload_n (n := 284) X 1 dX12_outside_283 rfl rfl rfl ?_
                    refine gg_12_1 (n := 287) (z := 191) X (by decide) (gsz hsz (by decide)) lay_190 kw_6_27 dX12_outside_284 rfl (rf_190_1 IM4820 (gsz hsz (by decide))) (by decide) ?_
                    refine g_sipush (n := 290) X dX12_outside_287 (by decide +kernel) rfl ?_
                    refine g_iload_n (n := 291) X 2 dX12_outside_290 rfl rfl rfl ?_
                    refine g_iadd (n := 292) (z := a + 3802) X dX12_outside_291 (by omega) rfl ?_
                    refine g_dup2 (n := 293) X dX12_outside_292 rfl rfl rfl ?_
                    obtain ⟨v4823, hv4823, rv4823⟩ := gRd IM4820 (by decide) (gsz hsz (by decide)) (rs_G (k := a + 3802) (by omega)).1
                    refine g_iald2 (n := 294) (v := v4823) X (by decide) (gsz hsz (by decide)) lay_191 (by omega) (by omega) (by decide) dX12_outside_293 rfl hv4823 ?_
                    refine g_iconst (n := 295) X dX12_outside_294 rfl ?_
                    refine g_iaddA (n := 296) X dX12_outside_295 rfl (fun v4824 rv4824 xv4824 => ?_)
                    clear xv4824
                    refine g_iast (n := 297) X (by decide) (gsz hsz (by decide)) lay_191 (by omega) (by omega) (by decide) dX12_outside_296 rfl ?_
                    refine G.nm (fun M4825 e4826 => ?_)
                    have IM4825 : gI sz M4825 := gI.set IM4820 (rs_G (k := a + 3802) (by omega)).1 (by omega) e4826
                    have CM4825 : gC sz M4825 := gC.set CM4820 (rs_G (k := a + 3802) (by omega)).2.1 e4826
                    refine g_iinc (n := 300) (w := v4303 + 1) (L' := [(2, gJ (v4303 + 1)), (3, gJ v4819), (0, gA n0 190), (1, gJ a)]) X 3 dX12_outside_297 rfl rfl (by decide) rfl rfl ?_
                    refine g_goto (tgt := 118) X dX12_outside_300 (by decide) ?_
                    refine G.sub (L' := [(0, gA n0 190), (1, gJ a), (2, gJ (v4303 + 1))]) [2, 3, 0] rfl ?_
                    exact ih4799 (v4303 + 1) M4825 (by omega) IM4825 CM4825 (gFr.s (gFr.c (gFr.s (gFr.s (gFr.c gFr.rf FM4304 rfl) e4816 (rs_G (k := a + 4705) (by omega)).2.2 rfl) e4818 (rs_W (k := (19848 + (301 * v4303)) + a) (by omega)).2.2 rfl) FM4820 rfl) e4826 (rs_G (k := a + 3802) (by omega)).2.2 rfl) (by omega)
                  · refine g_aload_n (n := 221) X 1 dX12_outside_220 rfl rfl rfl ?_
                    refine g_iload_n (n := 222) X 0 dX12_outside_221 rfl rfl rfl ?_
                    refine g_callVi (n := 225) (As := [gJ v4819]) (rest := []) (cs1 := 0) (ss1 := 0) X (s_X12_takenIn v4819 (by omega) hsz IM4820 CM4820 ) okX12_takenIn kw_7_154 ⟨kw_7_156, kw_0_79⟩ ⟨rfl, rfl⟩ ⟨Nat.le_of_ble_eq_true rfl, Nat.le_of_ble_eq_true rfl⟩ rfl (by decide) (gsz hsz (by decide)) lay_190 rfl rfl (Nat.le_of_ble_eq_true rfl) ⟨Nat.le_of_ble_eq_true rfl, Nat.le_of_ble_eq_true rfl⟩ rfl rfl dX12_outside_222 rfl (fun v4827 M4828 P4829 => ?_)
                    obtain ⟨rfl, rv4827⟩ := P4829
                    refine g_aload_n (n := 226) X 1 dX12_outside_225 rfl rfl rfl ?_
                    refine gg_12_1 (n := 229) (z := 191) X (by decide) (gsz hsz (by decide)) lay_190 kw_6_27 dX12_outside_226 rfl (rf_190_1 IM4820 (gsz hsz (by decide))) (by decide) ?_
                    refine g_bipush (n := 231) X dX12_outside_229 (by decide +kernel) rfl ?_
                    refine g_iload_n (n := 232) X 0 dX12_outside_231 rfl rfl rfl ?_
                    refine g_iadd (n := 233) (z := v4819 + 60) X dX12_outside_232 (by omega) rfl ?_
                    obtain ⟨v4830, hv4830, rv4830⟩ := rsp_0_24700 (k := v4819 + 60) IM4820 (gsz hsz (by decide)) (by omega)
                    refine g_iald2 (n := 234) (v := v4830) X (by decide) (gsz hsz (by decide)) lay_191 (by omega) (by omega) (by decide) dX12_outside_233 rfl hv4830 ?_
                    refine g_icmp_ge (n := 237) (tgt := 283) X dX12_outside_234 (by decide) (by omega) (by omega) rfl (fun c4831 => ?_) (fun c4831 => ?_)
                    · refine g_aload_n (n := 284) X 1 dX12_outside_283 rfl rfl rfl ?_
                      refine gg_12_1 (n := 287) (z := 191) X (by decide) (gsz hsz (by decide)) lay_190 kw_6_27 dX12_outside_284 rfl (rf_190_1 IM4820 (gsz hsz (by decide))) (by decide) ?_
                      refine g_sipush (n := 290) X dX12_outside_287 (by decide +kernel) rfl ?_
                      refine g_iload_n (n := 291) X 2 dX12_outside_290 rfl rfl rfl ?_
                      refine g_iadd (n := 292) (z := a + 3802) X dX12_outside_291 (by omega) rfl ?_
                      refine g_dup2 (n := 293) X dX12_outside_292 rfl rfl rfl ?_
                      obtain ⟨v4832, hv4832, rv4832⟩ := gRd IM4820 (by decide) (gsz hsz (by decide)) (rs_G (k := a + 3802) (by omega)).1
                      refine g_iald2 (n := 294) (v := v4832) X (by decide) (gsz hsz (by decide)) lay_191 (by omega) (by omega) (by decide) dX12_outside_293 rfl hv4832 ?_
                      refine g_iconst (n := 295) X dX12_outside_294 rfl ?_
                      refine g_iaddA (n := 296) X dX12_outside_295 rfl (fun v4833 rv4833 xv4833 => ?_)
                      clear xv4833
                      refine g_iast (n := 297) X (by decide) (gsz hsz (by decide)) lay_191 (by omega) (by omega) (by decide) dX12_outside_296 rfl ?_
                      refine G.nm (fun M4834 e4835 => ?_)
                      have IM4834 : gI sz M4834 := gI.set IM4820 (rs_G (k := a + 3802) (by omega)).1 (by omega) e4835
                      have CM4834 : gC sz M4834 := gC.set CM4820 (rs_G (k := a + 3802) (by omega)).2.1 e4835
                      refine g_iinc (n := 300) (w := v4303 + 1) (L' := [(2, gJ (v4303 + 1)), (3, gJ v4819), (0, gA n0 190), (1, gJ a)]) X 3 dX12_outside_297 rfl rfl (by decide) rfl rfl ?_
                      refine g_goto (tgt := 118) X dX12_outside_300 (by decide) ?_
                      refine G.sub (L' := [(0, gA n0 190), (1, gJ a), (2, gJ (v4303 + 1))]) [2, 3, 0] rfl ?_
                      exact ih4799 (v4303 + 1) M4834 (by omega) IM4834 CM4834 (gFr.s (gFr.c (gFr.s (gFr.s (gFr.c gFr.rf FM4304 rfl) e4816 (rs_G (k := a + 4705) (by omega)).2.2 rfl) e4818 (rs_W (k := (19848 + (301 * v4303)) + a) (by omega)).2.2 rfl) FM4820 rfl) e4835 (rs_G (k := a + 3802) (by omega)).2.2 rfl) (by omega)
                    · refine g_aload_n (n := 238) X 1 dX12_outside_237 rfl rfl rfl ?_
                      refine gg_12_1 (n := 241) (z := 191) X (by decide) (gsz hsz (by decide)) lay_190 kw_6_27 dX12_outside_238 rfl (rf_190_1 IM4820 (gsz hsz (by decide))) (by decide) ?_
                      refine g_sipush (n := 244) X dX12_outside_241 (by decide +kernel) rfl ?_
                      refine g_iload_n (n := 245) X 3 dX12_outside_244 rfl rfl rfl ?_
                      refine g_iadd (n := 246) (z := v4303 + 240) X dX12_outside_245 (by omega) rfl ?_
                      refine g_aload_n (n := 247) X 1 dX12_outside_246 rfl rfl rfl ?_
                      refine gg_12_1 (n := 250) (z := 191) X (by decide) (gsz hsz (by decide)) lay_190 kw_6_27 dX12_outside_247 rfl (rf_190_1 IM4820 (gsz hsz (by decide))) (by decide) ?_
                      refine g_sipush (n := 253) X dX12_outside_250 (by decide +kernel) rfl ?_
                      refine g_iload_n (n := 254) X 3 dX12_outside_253 rfl rfl rfl ?_
                      refine g_iadd (n := 255) (z := v4303 + 160) X dX12_outside_254 (by omega) rfl ?_
                      refine g_iald2 (n := 256) (v := v4802) X (by decide) (gsz hsz (by decide)) lay_191 (by omega) (by omega) (by decide) dX12_outside_255 rfl ((gFr.at FM4820 (rs_AT (k := v4303 + 160) (by omega)).2.2 rfl).trans ((congrFun (congrFun e4818 _) _).trans ((gset_ne (by omega)).trans ((congrFun (congrFun e4816 _) _).trans ((gset_ne (by omega)).trans hv4802))))) ?_
                      refine g_iast (n := 257) X (by decide) (gsz hsz (by decide)) lay_191 (by omega) (by omega) (by decide) dX12_outside_256 rfl ?_
                      refine G.nm (fun M4836 e4837 => ?_)
                      have IM4836 : gI sz M4836 := gI.set IM4820 (rs_CAME (k := v4303 + 240) (by omega)).1 (by omega) e4837
                      have CM4836 : gC sz M4836 := gC.set CM4820 (rs_CAME (k := v4303 + 240) (by omega)).2.1 e4837
                      refine g_aload_n (n := 258) X 1 dX12_outside_257 rfl rfl rfl ?_
                      refine gg_12_1 (n := 261) (z := 191) X (by decide) (gsz hsz (by decide)) lay_190 kw_6_27 dX12_outside_258 rfl (rf_190_1 IM4836 (gsz hsz (by decide))) (by decide) ?_
                      refine g_sipush (n := 264) X dX12_outside_261 (by decide +kernel) rfl ?_
                      refine g_iload_n (n := 265) X 3 dX12_outside_264 rfl rfl rfl ?_
                      refine g_iadd (n := 266) (z := v4303 + 160) X dX12_outside_265 (by omega) rfl ?_
                      refine g_bipush (n := 268) X dX12_outside_266 (by decide +kernel) rfl ?_
                      refine g_iast (n := 269) X (by decide) (gsz hsz (by decide)) lay_191 (by omega) (by omega) (by decide) dX12_outside_268 rfl ?_
                      refine G.nm (fun M4838 e4839 => ?_)
                      have IM4838 : gI sz M4838 := gI.set IM4836 (rs_AT (k := v4303 + 160) (by omega)).1 (by omega) e4839
                      have CM4838 : gC sz M4838 := gC.set CM4836 (rs_AT (k := v4303 + 160) (by omega)).2.1 e4839
                      refine g_aload_n (n := 270) X 1 dX12_outside_269 rfl rfl rfl ?_
                      refine gg_12_1 (n := 273) (z := 191) X (by decide) (gsz hsz (by decide)) lay_190 kw_6_27 dX12_outside_270 rfl (rf_190_1 IM4838 (gsz hsz (by decide))) (by decide) ?_
                      refine g_sipush (n := 276) X dX12_outside_273 (by decide +kernel) rfl ?_
                      refine g_iload_n (n := 277) X 3 dX12_outside_276 rfl rfl rfl ?_
                      refine g_iadd (n := 278) (z := v4303 + 208) X dX12_outside_277 (by omega) rfl ?_
                      refine g_iload_n (n := 279) X 0 dX12_outside_278 rfl rfl rfl ?_
                      refine g_iast (n := 280) X (by decide) (gsz hsz (by decide)) lay_191 (by omega) (by omega) (by decide) dX12_outside_279 rfl ?_
                      refine G.nm (fun M4840 e4841 => ?_)
                      have IM4840 : gI sz M4840 := gI.set IM4838 (rs_WARD (k := v4303 + 208) (by omega)).1 (by omega) e4841
                      have CM4840 : gC sz M4840 := gC.set CM4838 (rs_WARD (k := v4303 + 208) (by omega)).2.1 e4841
                      refine g_goto (tgt := 297) X dX12_outside_280 (by decide) ?_
                      refine g_iinc (n := 300) (w := v4303 + 1) (L' := [(2, gJ (v4303 + 1)), (3, gJ v4819), (0, gA n0 190), (1, gJ a)]) X 3 dX12_outside_297 rfl rfl (by decide) rfl rfl ?_
                      refine g_goto (tgt := 118) X dX12_outside_300 (by decide) ?_
                      refine G.sub (L' := [(0, gA n0 190), (1, gJ a), (2, gJ (v4303 + 1))]) [2, 3, 0] rfl ?_
                      exact ih4799 (v4303 + 1) M4840 (by omega) IM4840 CM4840 (gFr.s (gFr.s (gFr.s (gFr.c (gFr.s (gFr.s (gFr.c gFr.rf FM4304 rfl) e4816 (rs_G (k := a + 4705) (by omega)).2.2 rfl) e4818 (rs_W (k := (19848 + (301 * v4303)) + a) (by omega)).2.2 rfl) FM4820 rfl) e4837 (rs_CAME (k := v4303 + 240) (by omega)).2.2 rfl) e4839 (rs_AT (k := v4303 + 160) (by omega)).2.2 rfl) e4841 (rs_WARD (k := v4303 + 208) (by omega)).2.2 rfl) (by omega)
        refine G.sub (L' := [(0, gA n0 190), (1, gJ a), (2, gJ 0)]) [1, 2, 0] rfl ?_
        exact j4305 _ 0 M3 (by omega) IM3 CM3 gFr.rf (Nat.lt_succ_self _)
      · refine g_aload_n (n := 13) X 0 dX12_outside_12 rfl rfl rfl ?_
        refine gg_12_1 (n := 16) (z := 191) X (by decide) (gsz hsz (by decide)) lay_190 kw_6_27 dX12_outside_13 rfl (rf_190_1 IM3 (gsz hsz (by decide))) (by decide) ?_
        refine g_sipush (n := 19) X dX12_outside_16 (by decide +kernel) rfl ?_
        refine g_iload_n (n := 20) X 2 dX12_outside_19 rfl rfl rfl ?_
        refine g_iadd (n := 21) (z := v2 + 160) X dX12_outside_20 (by omega) rfl ?_
        obtain ⟨v4842, hv4842, rv4842⟩ := gRd IM3 (by decide) (gsz hsz (by decide)) (rs_AT (k := v2 + 160) (by omega)).1
        refine g_iald2 (n := 22) (v := v4842) X (by decide) (gsz hsz (by decide)) lay_191 (by omega) (by omega) (by decide) dX12_outside_21 rfl hv4842 ?_
        refine g_bipush (n := 24) X dX12_outside_22 (by decide +kernel) rfl ?_
        refine g_icmp_ge (n := 27) (tgt := 110) X dX12_outside_24 (by decide) (by omega) (by omega) rfl (fun c4843 => ?_) (fun c4843 => ?_)
        · refine g_iinc (n := 113) (w := v2 + 1) (L' := [(2, gJ (v2 + 1)), (0, gA n0 190), (1, gJ a)]) X 2 dX12_outside_110 rfl rfl (by decide) rfl rfl ?_
          refine g_goto (tgt := 2) X dX12_outside_113 (by decide) ?_
          refine G.sub (L' := [(0, gA n0 190), (1, gJ a), (2, gJ (v2 + 1))]) [1, 2, 0] rfl ?_
          exact ih4276 (v2 + 1) M3 (by omega) IM3 CM3 (gFr.c gFr.rf FM3 rfl) (by omega)
        · refine g_aload_n (n := 28) X 0 dX12_outside_27 rfl rfl rfl ?_
          refine g_iload_n (n := 29) X 2 dX12_outside_28 rfl rfl rfl ?_
          refine g_iconst (n := 30) X dX12_outside_29 rfl ?_
          refine g_aload_n (n := 31) X 0 dX12_outside_30 rfl rfl rfl ?_
          refine gg_12_1 (n := 34) (z := 191) X (by decide) (gsz hsz (by decide)) lay_190 kw_6_27 dX12_outside_31 rfl (rf_190_1 IM3 (gsz hsz (by decide))) (by decide) ?_
          refine g_sipush (n := 37) X dX12_outside_34 (by decide +kernel) rfl ?_
          refine g_iload_n (n := 38) X 1 dX12_outside_37 rfl rfl rfl ?_
          refine g_iadd (n := 39) (z := a + 2800) X dX12_outside_38 (by omega) rfl ?_
          obtain ⟨v4844, hv4844, rv4844⟩ := gRd IM3 (by decide) (gsz hsz (by decide)) (rs_FROST (k := a + 2800) (by omega)).1
          refine g_iald2 (n := 40) (v := v4844) X (by decide) (gsz hsz (by decide)) lay_191 (by omega) (by omega) (by decide) dX12_outside_39 rfl hv4844 ?_
          refine g_iconst (n := 41) X dX12_outside_40 rfl ?_
          refine g_idivA (n := 42) X dX12_outside_41 (by decide +kernel) rfl (fun v4845 rv4845 xv4845 => ?_)
          clear xv4845
          refine g_iaddA (n := 43) X dX12_outside_42 rfl (fun v4846 rv4846 xv4846 => ?_)
          clear xv4846
          refine g_aload_n (n := 44) X 0 dX12_outside_43 rfl rfl rfl ?_
          refine gg_12_1 (n := 47) (z := 191) X (by decide) (gsz hsz (by decide)) lay_190 kw_6_27 dX12_outside_44 rfl (rf_190_1 IM3 (gsz hsz (by decide))) (by decide) ?_
          refine g_sipush (n := 50) X dX12_outside_47 (by decide +kernel) rfl ?_
          refine g_iload_n (n := 51) X 2 dX12_outside_50 rfl rfl rfl ?_
          refine g_iadd (n := 52) (z := v2 + 144) X dX12_outside_51 (by omega) rfl ?_
          obtain ⟨v4847, hv4847, rv4847⟩ := gRd IM3 (by decide) (gsz hsz (by decide)) (rs_STRONG (k := v2 + 144) (by omega)).1
          refine g_iald2 (n := 53) (v := v4847) X (by decide) (gsz hsz (by decide)) lay_191 (by omega) (by omega) (by decide) dX12_outside_52 rfl hv4847 ?_
          refine g_iconst (n := 54) X dX12_outside_53 rfl ?_
          refine g_idivA (n := 55) X dX12_outside_54 (by decide +kernel) rfl (fun v4848 rv4848 xv4848 => ?_)
          clear xv4848
          refine g_isubA (n := 56) X dX12_outside_55 rfl (fun v4849 rv4849 xv4849 => ?_)
          clear xv4849
          refine g_callVv (n := 59) (As := [gJ v2, gJ v4849]) (rest := []) (cs1 := 0) (ss1 := 0) X (s_X12_hungers v2 (by omega) v4849 (by omega) hsz IM3 CM3 ) okX12_hungers kw_7_150 ⟨kw_7_152, kw_0_78⟩ ⟨rfl, rfl⟩ ⟨Nat.le_of_ble_eq_true rfl, Nat.le_of_ble_eq_true rfl⟩ rfl (by decide) (gsz hsz (by decide)) lay_190 rfl rfl (Nat.le_of_ble_eq_true rfl) ⟨Nat.le_of_ble_eq_true rfl, Nat.le_of_ble_eq_true rfl⟩ rfl rfl dX12_outside_56 rfl (fun M4851 P4852 => ?_)
          obtain ⟨IM4851, CM4851, FM4851⟩ := P4852
          refine g_aload_n (n := 60) X 0 dX12_outside_59 rfl rfl rfl ?_
          refine g_bipush (n := 62) X dX12_outside_60 (by decide +kernel) rfl ?_
          refine g_iload_n (n := 63) X 2 dX12_outside_62 rfl rfl rfl ?_
          refine g_callVi (n := 66) (As := [gJ 8, gJ v2]) (rest := []) (cs1 := 0) (ss1 := 0) X (s_X12_firstOf 8 (by omega) v2 (by omega) hsz IM4851 CM4851 (gW.fr (S := 2475884179513678336259784704) W ⟨sz, hsz, I⟩ (gFr.c (gFr.c gFr.rf FM3 rfl) FM4851 rfl) rfl) (by have q2 := ((gFr.at FM4851 (rs_PERS (k := 1) (by omega)).2.2 rfl).trans ((gFr.at FM3 (rs_PERS (k := 1) (by omega)).2.2 rfl).trans hv1)); omega)) okX12_firstOf kw_7_86 ⟨kw_7_88, kw_0_71⟩ ⟨rfl, rfl⟩ ⟨Nat.le_of_ble_eq_true rfl, Nat.le_of_ble_eq_true rfl⟩ rfl (by decide) (gsz hsz (by decide)) lay_190 rfl rfl (Nat.le_of_ble_eq_true rfl) ⟨Nat.le_of_ble_eq_true rfl, Nat.le_of_ble_eq_true rfl⟩ rfl rfl dX12_outside_63 rfl (fun v4853 M4854 P4855 => ?_)
          obtain ⟨rv4853, IM4854, CM4854, FM4854⟩ := P4855
          refine g_istore_n (n := 67) (L' := [(3, gJ v4853), (0, gA n0 190), (1, gJ a), (2, gJ v2)]) X dX12_outside_66 rfl (by decide) rfl rfl ?_
          refine g_iload_n (n := 68) X 0 dX12_outside_67 rfl rfl rfl ?_
          refine g_iconst (n := 69) X dX12_outside_68 rfl ?_
          refine g_icmp_eq (n := 72) (tgt := 110) X dX12_outside_69 (by decide) (by omega) (by omega) rfl (fun c4856 => ?_) (fun c4856 => ?_)
          · refine g_iinc (n := 113) (w := v2 + 1) (L' := [(2, gJ (v2 + 1)), (3, gJ v4853), (0, gA n0 190), (1, gJ a)]) X 3 dX12_outside_110 rfl rfl (by decide) rfl rfl ?_
            refine g_goto (tgt := 2) X dX12_outside_113 (by decide) ?_
            refine G.sub (L' := [(0, gA n0 190), (1, gJ a), (2, gJ (v2 + 1))]) [2, 3, 0] rfl ?_
            exact ih4276 (v2 + 1) M4854 (by omega) IM4854 CM4854 (gFr.c (gFr.c (gFr.c gFr.rf FM3 rfl) FM4851 rfl) FM4854 rfl) (by omega)
          · refine g_aload_n (n := 73) X 1 dX12_outside_72 rfl rfl rfl ?_
            refine gg_12_1 (n := 76) (z := 191) X (by decide) (gsz hsz (by decide)) lay_190 kw_6_27 dX12_outside_73 rfl (rf_190_1 IM4854 (gsz hsz (by decide))) (by decide) ?_
            refine g_sipush (n := 79) X dX12_outside_76 (by decide +kernel) rfl ?_
            refine g_iload_n (n := 80) X 2 dX12_outside_79 rfl rfl rfl ?_
            refine g_iadd (n := 81) (z := a + 3501) X dX12_outside_80 (by omega) rfl ?_
            refine g_dup2 (n := 82) X dX12_outside_81 rfl rfl rfl ?_
            obtain ⟨v4857, hv4857, rv4857⟩ := gRd IM4854 (by decide) (gsz hsz (by decide)) (rs_G (k := a + 3501) (by omega)).1
            refine g_iald2 (n := 83) (v := v4857) X (by decide) (gsz hsz (by decide)) lay_191 (by omega) (by omega) (by decide) dX12_outside_82 rfl hv4857 ?_
            refine g_iload_n (n := 84) X 0 dX12_outside_83 rfl rfl rfl ?_
            refine g_iaddA (n := 85) X dX12_outside_84 rfl (fun v4858 rv4858 xv4858 => ?_)
            clear xv4858
            refine g_iast (n := 86) X (by decide) (gsz hsz (by decide)) lay_191 (by omega) (by omega) (by decide) dX12_outside_85 rfl ?_
            refine G.nm (fun M4859 e4860 => ?_)
            have IM4859 : gI sz M4859 := gI.set IM4854 (rs_G (k := a + 3501) (by omega)).1 (by omega) e4860
            have CM4859 : gC sz M4859 := gC.set CM4854 (rs_G (k := a + 3501) (by omega)).2.1 e4860
            refine g_aload_n (n := 87) X 1 dX12_outside_86 rfl rfl rfl ?_
            refine gg_12_1 (n := 90) (z := 191) X (by decide) (gsz hsz (by decide)) lay_190 kw_6_27 dX12_outside_87 rfl (rf_190_1 IM4859 (gsz hsz (by decide))) (by decide) ?_
            refine g_sipush (n := 93) X dX12_outside_90 (by decide +kernel) rfl ?_
            refine g_sipush (n := 96) X dX12_outside_93 (by decide +kernel) rfl ?_
            refine g_iload_n (n := 97) X 3 dX12_outside_96 rfl rfl rfl ?_
            refine g_imul (n := 98) (z := 301 * v2) X dX12_outside_97 rfl rfl ?_
            refine g_iadd (n := 99) (z := 15032 + (301 * v2)) X dX12_outside_98 rfl rfl ?_
            refine g_iload_n (n := 100) X 2 dX12_outside_99 rfl rfl rfl ?_
            refine g_iadd (n := 101) (z := (15032 + (301 * v2)) + a) X dX12_outside_100 rfl rfl ?_
            refine g_iload_n (n := 102) X 0 dX12_outside_101 rfl rfl rfl ?_
            refine g_iast (n := 103) X (by decide) (gsz hsz (by decide)) lay_191 (by omega) (by omega) (by decide) dX12_outside_102 rfl ?_
            refine G.nm (fun M4861 e4862 => ?_)
            have IM4861 : gI sz M4861 := gI.set IM4859 (rs_W (k := (15032 + (301 * v2)) + a) (by omega)).1 (by omega) e4862
            have CM4861 : gC sz M4861 := gC.set CM4859 (rs_W (k := (15032 + (301 * v2)) + a) (by omega)).2.1 e4862
            refine g_aload_n (n := 104) X 1 dX12_outside_103 rfl rfl rfl ?_
            refine g_iload_n (n := 105) X 3 dX12_outside_104 rfl rfl rfl ?_
            refine g_bipush (n := 107) X dX12_outside_105 (by decide +kernel) rfl ?_
            refine g_callVv (n := 110) (As := [gJ v2, gJ (-2)]) (rest := []) (cs1 := 0) (ss1 := 0) X (s_X12_hungers v2 (by omega) (-2) (by omega) hsz IM4861 CM4861 ) okX12_hungers kw_7_150 ⟨kw_7_152, kw_0_78⟩ ⟨rfl, rfl⟩ ⟨Nat.le_of_ble_eq_true rfl, Nat.le_of_ble_eq_true rfl⟩ rfl (by decide) (gsz hsz (by decide)) lay_190 rfl rfl (Nat.le_of_ble_eq_true rfl) ⟨Nat.le_of_ble_eq_true rfl, Nat.le_of_ble_eq_true rfl⟩ rfl rfl dX12_outside_107 rfl (fun M4864 P4865 => ?_)
            obtain ⟨IM4864, CM4864, FM4864⟩ := P4865
            refine g_iinc (n := 113) (w := v2 + 1) (L' := [(2, gJ (v2 + 1)), (3, gJ v4853), (0, gA n0 190), (1, gJ a)]) X 3 dX12_outside_110 rfl rfl (by decide) rfl rfl ?_
            refine g_goto (tgt := 2) X dX12_outside_113 (by decide) ?_
            refine G.sub (L' := [(0, gA n0 190), (1, gJ a), (2, gJ (v2 + 1))]) [2, 3, 0] rfl ?_
            exact ih4276 (v2 + 1) M4864 (by omega) IM4864 CM4864 (gFr.c (gFr.s (gFr.s (gFr.c (gFr.c (gFr.c gFr.rf FM3 rfl) FM4851 rfl) FM4854 rfl) e4860 (rs_G (k := a + 3501) (by omega)).2.2 rfl) e4862 (rs_W (k := (15032 + (301 * v2)) + a) (by omega)).2.2 rfl) FM4864 rfl) (by omega)
  refine G.sub (L' := [(0, gA n0 190), (1, gJ a), (2, gJ 0)]) [1, 2, 0] rfl ?_
  exact j4 _ 0 M (by omega) I C gFr.rf (Nat.lt_succ_self _)
theorem dX12_inside_0 : decode cX12_inside 0 = .ok (.aload_n 0, 1) := dc_42 (by decide +kernel)
theorem dX12_inside_1 : decode cX12_inside 1 = .ok (.iconst 2, 1) := dc_5 (by decide +kernel)
theorem dX12_inside_2 : decode cX12_inside 2 = .ok (.iload_n 1, 1) := dc_27 (by decide +kernel)
theorem dX12_inside_3 : decode cX12_inside 3 = .ok (.invokevirtual 101, 3) := dc_182 0 101 (by decide +kernel)
theorem dX12_inside_6 : decode cX12_inside 6 = .ok (.istore_n 2, 1) := dc_61 (by decide +kernel)
theorem dX12_inside_7 : decode cX12_inside 7 = .ok (.iconst 0, 1) := dc_3 (by decide +kernel)
theorem dX12_inside_8 : decode cX12_inside 8 = .ok (.istore_n 3, 1) := dc_62 (by decide +kernel)
theorem dX12_inside_9 : decode cX12_inside 9 = .ok (.iload_n 3, 1) := dc_29 (by decide +kernel)
theorem dX12_inside_10 : decode cX12_inside 10 = .ok (.aload_n 0, 1) := dc_42 (by decide +kernel)
theorem dX12_inside_11 : decode cX12_inside 11 = .ok (.getfield 7, 3) := dc_180 0 7 (by decide +kernel)
theorem dX12_inside_14 : decode cX12_inside 14 = .ok (.iconst 1, 1) := dc_4 (by decide +kernel)
theorem dX12_inside_15 : decode cX12_inside 15 = .ok (.iaload, 1) := dc_46 (by decide +kernel)
theorem dX12_inside_16 : decode cX12_inside 16 = .ok (.if_icmp .ge 127, 3) := dc_162 0 127 127 (by decide +kernel)
theorem dX12_inside_19 : decode cX12_inside 19 = .ok (.aload_n 0, 1) := dc_42 (by decide +kernel)
theorem dX12_inside_20 : decode cX12_inside 20 = .ok (.getfield 7, 3) := dc_180 0 7 (by decide +kernel)
theorem dX12_inside_23 : decode cX12_inside 23 = .ok (.sipush 160, 3) := dc_17 0 160 160 (by decide +kernel)
theorem dX12_inside_26 : decode cX12_inside 26 = .ok (.iload_n 3, 1) := dc_29 (by decide +kernel)
theorem dX12_inside_27 : decode cX12_inside 27 = .ok (.iadd, 1) := dc_96 (by decide +kernel)
theorem dX12_inside_28 : decode cX12_inside 28 = .ok (.iaload, 1) := dc_46 (by decide +kernel)
theorem dX12_inside_29 : decode cX12_inside 29 = .ok (.bipush 6, 2) := dc_16 6 6 (by decide +kernel)
theorem dX12_inside_31 : decode cX12_inside 31 = .ok (.if_icmp .ne 106, 3) := dc_160 0 106 106 (by decide +kernel)
theorem dX12_inside_137 : decode cX12_inside 137 = .ok (.iinc 3 1, 3) := dc_132 3 1 1 (by decide +kernel)
theorem dX12_inside_140 : decode cX12_inside 140 = .ok (.goto (-131), 3) := dc_167 255 125 (-131) (by decide +kernel)
theorem dX12_inside_34 : decode cX12_inside 34 = .ok (.aload_n 0, 1) := dc_42 (by decide +kernel)
theorem dX12_inside_35 : decode cX12_inside 35 = .ok (.getfield 7, 3) := dc_180 0 7 (by decide +kernel)
theorem dX12_inside_38 : decode cX12_inside 38 = .ok (.bipush 8, 2) := dc_16 8 8 (by decide +kernel)
theorem dX12_inside_40 : decode cX12_inside 40 = .ok (.iaload, 1) := dc_46 (by decide +kernel)
theorem dX12_inside_41 : decode cX12_inside 41 = .ok (.iload_n 2, 1) := dc_28 (by decide +kernel)
theorem dX12_inside_42 : decode cX12_inside 42 = .ok (.if_icmp .lt 7, 3) := dc_161 0 7 7 (by decide +kernel)
theorem dX12_inside_49 : decode cX12_inside 49 = .ok (.iconst 0, 1) := dc_3 (by decide +kernel)
theorem dX12_inside_45 : decode cX12_inside 45 = .ok (.iconst 1, 1) := dc_4 (by decide +kernel)
theorem dX12_inside_46 : decode cX12_inside 46 = .ok (.goto 4, 3) := dc_167 0 4 4 (by decide +kernel)
theorem dX12_inside_50 : decode cX12_inside 50 = .ok (.istore 4, 2) := dc_54 4 (by decide +kernel)
theorem dX12_inside_52 : decode cX12_inside 52 = .ok (.aload_n 0, 1) := dc_42 (by decide +kernel)
theorem dX12_inside_53 : decode cX12_inside 53 = .ok (.getfield 7, 3) := dc_180 0 7 (by decide +kernel)
theorem dX12_inside_56 : decode cX12_inside 56 = .ok (.bipush 8, 2) := dc_16 8 8 (by decide +kernel)
theorem dX12_inside_58 : decode cX12_inside 58 = .ok (.dup2, 1) := dc_92 (by decide +kernel)
theorem dX12_inside_59 : decode cX12_inside 59 = .ok (.iaload, 1) := dc_46 (by decide +kernel)
theorem dX12_inside_60 : decode cX12_inside 60 = .ok (.iload 4, 2) := dc_21 4 (by decide +kernel)
theorem dX12_inside_62 : decode cX12_inside 62 = .ok (.ifCond .eq 7, 3) := dc_153 0 7 7 (by decide +kernel)
theorem dX12_inside_69 : decode cX12_inside 69 = .ok (.iconst 0, 1) := dc_3 (by decide +kernel)
theorem dX12_inside_65 : decode cX12_inside 65 = .ok (.iload_n 2, 1) := dc_28 (by decide +kernel)
theorem dX12_inside_66 : decode cX12_inside 66 = .ok (.goto 4, 3) := dc_167 0 4 4 (by decide +kernel)
theorem dX12_inside_70 : decode cX12_inside 70 = .ok (.isub, 1) := dc_100 (by decide +kernel)
theorem dX12_inside_71 : decode cX12_inside 71 = .ok (.iastore, 1) := dc_79 (by decide +kernel)
theorem dX12_inside_72 : decode cX12_inside 72 = .ok (.aload_n 0, 1) := dc_42 (by decide +kernel)
theorem dX12_inside_73 : decode cX12_inside 73 = .ok (.getfield 7, 3) := dc_180 0 7 (by decide +kernel)
theorem dX12_inside_76 : decode cX12_inside 76 = .ok (.sipush 3200, 3) := dc_17 12 128 3200 (by decide +kernel)
theorem dX12_inside_79 : decode cX12_inside 79 = .ok (.iload_n 1, 1) := dc_27 (by decide +kernel)
theorem dX12_inside_80 : decode cX12_inside 80 = .ok (.iadd, 1) := dc_96 (by decide +kernel)
theorem dX12_inside_81 : decode cX12_inside 81 = .ok (.dup2, 1) := dc_92 (by decide +kernel)
theorem dX12_inside_82 : decode cX12_inside 82 = .ok (.iaload, 1) := dc_46 (by decide +kernel)
theorem dX12_inside_83 : decode cX12_inside 83 = .ok (.iload 4, 2) := dc_21 4 (by decide +kernel)
theorem dX12_inside_85 : decode cX12_inside 85 = .ok (.ifCond .eq 7, 3) := dc_153 0 7 7 (by decide +kernel)
theorem dX12_inside_92 : decode cX12_inside 92 = .ok (.iconst 0, 1) := dc_3 (by decide +kernel)
theorem dX12_inside_93 : decode cX12_inside 93 = .ok (.iadd, 1) := dc_96 (by decide +kernel)
theorem dX12_inside_94 : decode cX12_inside 94 = .ok (.iastore, 1) := dc_79 (by decide +kernel)
theorem dX12_inside_95 : decode cX12_inside 95 = .ok (.aload_n 0, 1) := dc_42 (by decide +kernel)
theorem dX12_inside_96 : decode cX12_inside 96 = .ok (.getfield 7, 3) := dc_180 0 7 (by decide +kernel)
theorem dX12_inside_99 : decode cX12_inside 99 = .ok (.sipush 10216, 3) := dc_17 39 232 10216 (by decide +kernel)
theorem dX12_inside_102 : decode cX12_inside 102 = .ok (.sipush 301, 3) := dc_17 1 45 301 (by decide +kernel)
theorem dX12_inside_105 : decode cX12_inside 105 = .ok (.iload_n 3, 1) := dc_29 (by decide +kernel)
theorem dX12_inside_106 : decode cX12_inside 106 = .ok (.imul, 1) := dc_104 (by decide +kernel)
theorem dX12_inside_107 : decode cX12_inside 107 = .ok (.iadd, 1) := dc_96 (by decide +kernel)
theorem dX12_inside_108 : decode cX12_inside 108 = .ok (.iload_n 1, 1) := dc_27 (by decide +kernel)
theorem dX12_inside_109 : decode cX12_inside 109 = .ok (.iadd, 1) := dc_96 (by decide +kernel)
theorem dX12_inside_110 : decode cX12_inside 110 = .ok (.iload 4, 2) := dc_21 4 (by decide +kernel)
theorem dX12_inside_112 : decode cX12_inside 112 = .ok (.ifCond .eq 7, 3) := dc_153 0 7 7 (by decide +kernel)
theorem dX12_inside_119 : decode cX12_inside 119 = .ok (.iconst 0, 1) := dc_3 (by decide +kernel)
theorem dX12_inside_120 : decode cX12_inside 120 = .ok (.iastore, 1) := dc_79 (by decide +kernel)
theorem dX12_inside_121 : decode cX12_inside 121 = .ok (.aload_n 0, 1) := dc_42 (by decide +kernel)
theorem dX12_inside_122 : decode cX12_inside 122 = .ok (.iload_n 3, 1) := dc_29 (by decide +kernel)
theorem dX12_inside_123 : decode cX12_inside 123 = .ok (.iload 4, 2) := dc_21 4 (by decide +kernel)
theorem dX12_inside_125 : decode cX12_inside 125 = .ok (.ifCond .eq 8, 3) := dc_153 0 8 8 (by decide +kernel)
theorem dX12_inside_133 : decode cX12_inside 133 = .ok (.iconst 2, 1) := dc_5 (by decide +kernel)
theorem dX12_inside_134 : decode cX12_inside 134 = .ok (.invokevirtual 257, 3) := dc_182 1 1 (by decide +kernel)
theorem dX12_inside_88 : decode cX12_inside 88 = .ok (.iload_n 2, 1) := dc_28 (by decide +kernel)
theorem dX12_inside_89 : decode cX12_inside 89 = .ok (.goto 4, 3) := dc_167 0 4 4 (by decide +kernel)
theorem dX12_inside_115 : decode cX12_inside 115 = .ok (.iload_n 2, 1) := dc_28 (by decide +kernel)
theorem dX12_inside_116 : decode cX12_inside 116 = .ok (.goto 4, 3) := dc_167 0 4 4 (by decide +kernel)
theorem dX12_inside_128 : decode cX12_inside 128 = .ok (.bipush (-3), 2) := dc_16 253 (-3) (by decide +kernel)
theorem dX12_inside_130 : decode cX12_inside 130 = .ok (.goto 4, 3) := dc_167 0 4 4 (by decide +kernel)
theorem dX12_inside_143 : decode cX12_inside 143 = .ok (.iconst 0, 1) := dc_3 (by decide +kernel)
theorem dX12_inside_144 : decode cX12_inside 144 = .ok (.istore_n 3, 1) := dc_62 (by decide +kernel)
theorem dX12_inside_145 : decode cX12_inside 145 = .ok (.iload_n 3, 1) := dc_29 (by decide +kernel)
theorem dX12_inside_146 : decode cX12_inside 146 = .ok (.aload_n 0, 1) := dc_42 (by decide +kernel)
theorem dX12_inside_147 : decode cX12_inside 147 = .ok (.getfield 7, 3) := dc_180 0 7 (by decide +kernel)
theorem dX12_inside_150 : decode cX12_inside 150 = .ok (.iconst 1, 1) := dc_4 (by decide +kernel)
theorem dX12_inside_151 : decode cX12_inside 151 = .ok (.iaload, 1) := dc_46 (by decide +kernel)
theorem dX12_inside_152 : decode cX12_inside 152 = .ok (.if_icmp .ge 141, 3) := dc_162 0 141 141 (by decide +kernel)
theorem dX12_inside_293 : decode cX12_inside 293 = .ok (.iconst 0, 1) := dc_3 (by decide +kernel)
theorem dX12_inside_294 : decode cX12_inside 294 = .ok (.istore_n 3, 1) := dc_62 (by decide +kernel)
theorem dX12_inside_295 : decode cX12_inside 295 = .ok (.iload_n 3, 1) := dc_29 (by decide +kernel)
theorem dX12_inside_296 : decode cX12_inside 296 = .ok (.aload_n 0, 1) := dc_42 (by decide +kernel)
theorem dX12_inside_297 : decode cX12_inside 297 = .ok (.getfield 7, 3) := dc_180 0 7 (by decide +kernel)
theorem dX12_inside_300 : decode cX12_inside 300 = .ok (.iconst 1, 1) := dc_4 (by decide +kernel)
theorem dX12_inside_301 : decode cX12_inside 301 = .ok (.iaload, 1) := dc_46 (by decide +kernel)
theorem dX12_inside_302 : decode cX12_inside 302 = .ok (.if_icmp .ge 107, 3) := dc_162 0 107 107 (by decide +kernel)
theorem dX12_inside_409 : decode cX12_inside 409 = .ok (.iconst 0, 1) := dc_3 (by decide +kernel)
theorem dX12_inside_410 : decode cX12_inside 410 = .ok (.istore_n 3, 1) := dc_62 (by decide +kernel)
theorem dX12_inside_411 : decode cX12_inside 411 = .ok (.iload_n 3, 1) := dc_29 (by decide +kernel)
theorem dX12_inside_412 : decode cX12_inside 412 = .ok (.aload_n 0, 1) := dc_42 (by decide +kernel)
theorem dX12_inside_413 : decode cX12_inside 413 = .ok (.getfield 7, 3) := dc_180 0 7 (by decide +kernel)
theorem dX12_inside_416 : decode cX12_inside 416 = .ok (.iconst 1, 1) := dc_4 (by decide +kernel)
theorem dX12_inside_417 : decode cX12_inside 417 = .ok (.iaload, 1) := dc_46 (by decide +kernel)
theorem dX12_inside_418 : decode cX12_inside 418 = .ok (.if_icmp .ge 80, 3) := dc_162 0 80 80 (by decide +kernel)
theorem dX12_inside_498 : decode cX12_inside 498 = .ok (.return_, 1) := dc_177 (by decide +kernel)
theorem dX12_inside_155 : decode cX12_inside 155 = .ok (.aload_n 0, 1) := dc_42 (by decide +kernel)
theorem dX12_inside_156 : decode cX12_inside 156 = .ok (.getfield 7, 3) := dc_180 0 7 (by decide +kernel)
theorem dX12_inside_159 : decode cX12_inside 159 = .ok (.sipush 160, 3) := dc_17 0 160 160 (by decide +kernel)
theorem dX12_inside_162 : decode cX12_inside 162 = .ok (.iload_n 3, 1) := dc_29 (by decide +kernel)
theorem dX12_inside_163 : decode cX12_inside 163 = .ok (.iadd, 1) := dc_96 (by decide +kernel)
theorem dX12_inside_164 : decode cX12_inside 164 = .ok (.iaload, 1) := dc_46 (by decide +kernel)
theorem dX12_inside_165 : decode cX12_inside 165 = .ok (.bipush 6, 2) := dc_16 6 6 (by decide +kernel)
theorem dX12_inside_167 : decode cX12_inside 167 = .ok (.if_icmp .ne 120, 3) := dc_160 0 120 120 (by decide +kernel)
theorem dX12_inside_287 : decode cX12_inside 287 = .ok (.iinc 3 1, 3) := dc_132 3 1 1 (by decide +kernel)
theorem dX12_inside_290 : decode cX12_inside 290 = .ok (.goto (-145), 3) := dc_167 255 111 (-145) (by decide +kernel)
theorem dX12_inside_170 : decode cX12_inside 170 = .ok (.aload_n 0, 1) := dc_42 (by decide +kernel)
theorem dX12_inside_171 : decode cX12_inside 171 = .ok (.getfield 7, 3) := dc_180 0 7 (by decide +kernel)
theorem dX12_inside_174 : decode cX12_inside 174 = .ok (.sipush 208, 3) := dc_17 0 208 208 (by decide +kernel)
theorem dX12_inside_177 : decode cX12_inside 177 = .ok (.iload_n 3, 1) := dc_29 (by decide +kernel)
theorem dX12_inside_178 : decode cX12_inside 178 = .ok (.iadd, 1) := dc_96 (by decide +kernel)
theorem dX12_inside_179 : decode cX12_inside 179 = .ok (.iaload, 1) := dc_46 (by decide +kernel)
theorem dX12_inside_180 : decode cX12_inside 180 = .ok (.istore 4, 2) := dc_54 4 (by decide +kernel)
theorem dX12_inside_182 : decode cX12_inside 182 = .ok (.iconst 2, 1) := dc_5 (by decide +kernel)
theorem dX12_inside_183 : decode cX12_inside 183 = .ok (.aload_n 0, 1) := dc_42 (by decide +kernel)
theorem dX12_inside_184 : decode cX12_inside 184 = .ok (.iload 4, 2) := dc_21 4 (by decide +kernel)
theorem dX12_inside_186 : decode cX12_inside 186 = .ok (.invokevirtual 260, 3) := dc_182 1 4 (by decide +kernel)
theorem dX12_inside_189 : decode cX12_inside 189 = .ok (.imul, 1) := dc_104 (by decide +kernel)
theorem dX12_inside_190 : decode cX12_inside 190 = .ok (.aload_n 0, 1) := dc_42 (by decide +kernel)
theorem dX12_inside_191 : decode cX12_inside 191 = .ok (.getfield 7, 3) := dc_180 0 7 (by decide +kernel)
theorem dX12_inside_194 : decode cX12_inside 194 = .ok (.bipush 60, 2) := dc_16 60 60 (by decide +kernel)
theorem dX12_inside_196 : decode cX12_inside 196 = .ok (.iload 4, 2) := dc_21 4 (by decide +kernel)
theorem dX12_inside_198 : decode cX12_inside 198 = .ok (.iadd, 1) := dc_96 (by decide +kernel)
theorem dX12_inside_199 : decode cX12_inside 199 = .ok (.iaload, 1) := dc_46 (by decide +kernel)
theorem dX12_inside_200 : decode cX12_inside 200 = .ok (.if_icmp .le 30, 3) := dc_164 0 30 30 (by decide +kernel)
theorem dX12_inside_230 : decode cX12_inside 230 = .ok (.iconst 0, 1) := dc_3 (by decide +kernel)
theorem dX12_inside_231 : decode cX12_inside 231 = .ok (.istore 5, 2) := dc_54 5 (by decide +kernel)
theorem dX12_inside_233 : decode cX12_inside 233 = .ok (.aload_n 0, 1) := dc_42 (by decide +kernel)
theorem dX12_inside_234 : decode cX12_inside 234 = .ok (.getfield 7, 3) := dc_180 0 7 (by decide +kernel)
theorem dX12_inside_237 : decode cX12_inside 237 = .ok (.sipush 192, 3) := dc_17 0 192 192 (by decide +kernel)
theorem dX12_inside_240 : decode cX12_inside 240 = .ok (.iload_n 3, 1) := dc_29 (by decide +kernel)
theorem dX12_inside_241 : decode cX12_inside 241 = .ok (.iadd, 1) := dc_96 (by decide +kernel)
theorem dX12_inside_242 : decode cX12_inside 242 = .ok (.iaload, 1) := dc_46 (by decide +kernel)
theorem dX12_inside_243 : decode cX12_inside 243 = .ok (.iload 5, 2) := dc_21 5 (by decide +kernel)
theorem dX12_inside_245 : decode cX12_inside 245 = .ok (.ifCond .eq 7, 3) := dc_153 0 7 7 (by decide +kernel)
theorem dX12_inside_252 : decode cX12_inside 252 = .ok (.iconst (-1), 1) := dc_2 (by decide +kernel)
theorem dX12_inside_253 : decode cX12_inside 253 = .ok (.iadd, 1) := dc_96 (by decide +kernel)
theorem dX12_inside_254 : decode cX12_inside 254 = .ok (.istore 6, 2) := dc_54 6 (by decide +kernel)
theorem dX12_inside_256 : decode cX12_inside 256 = .ok (.aload_n 0, 1) := dc_42 (by decide +kernel)
theorem dX12_inside_257 : decode cX12_inside 257 = .ok (.getfield 7, 3) := dc_180 0 7 (by decide +kernel)
theorem dX12_inside_260 : decode cX12_inside 260 = .ok (.sipush 192, 3) := dc_17 0 192 192 (by decide +kernel)
theorem dX12_inside_263 : decode cX12_inside 263 = .ok (.iload_n 3, 1) := dc_29 (by decide +kernel)
theorem dX12_inside_264 : decode cX12_inside 264 = .ok (.iadd, 1) := dc_96 (by decide +kernel)
theorem dX12_inside_265 : decode cX12_inside 265 = .ok (.iload 6, 2) := dc_21 6 (by decide +kernel)
theorem dX12_inside_267 : decode cX12_inside 267 = .ok (.ifCond .ge 7, 3) := dc_156 0 7 7 (by decide +kernel)
theorem dX12_inside_274 : decode cX12_inside 274 = .ok (.iload 6, 2) := dc_21 6 (by decide +kernel)
theorem dX12_inside_276 : decode cX12_inside 276 = .ok (.iconst 5, 1) := dc_8 (by decide +kernel)
theorem dX12_inside_277 : decode cX12_inside 277 = .ok (.if_icmp .le 7, 3) := dc_164 0 7 7 (by decide +kernel)
theorem dX12_inside_284 : decode cX12_inside 284 = .ok (.iload 6, 2) := dc_21 6 (by decide +kernel)
theorem dX12_inside_286 : decode cX12_inside 286 = .ok (.iastore, 1) := dc_79 (by decide +kernel)
theorem dX12_inside_280 : decode cX12_inside 280 = .ok (.iconst 5, 1) := dc_8 (by decide +kernel)
theorem dX12_inside_281 : decode cX12_inside 281 = .ok (.goto 5, 3) := dc_167 0 5 5 (by decide +kernel)
theorem dX12_inside_270 : decode cX12_inside 270 = .ok (.iconst 0, 1) := dc_3 (by decide +kernel)
theorem dX12_inside_271 : decode cX12_inside 271 = .ok (.goto 15, 3) := dc_167 0 15 15 (by decide +kernel)
theorem dX12_inside_203 : decode cX12_inside 203 = .ok (.aload_n 0, 1) := dc_42 (by decide +kernel)
theorem dX12_inside_204 : decode cX12_inside 204 = .ok (.getfield 7, 3) := dc_180 0 7 (by decide +kernel)
theorem dX12_inside_207 : decode cX12_inside 207 = .ok (.sipush 144, 3) := dc_17 0 144 144 (by decide +kernel)
theorem dX12_inside_210 : decode cX12_inside 210 = .ok (.iload_n 3, 1) := dc_29 (by decide +kernel)
theorem dX12_inside_211 : decode cX12_inside 211 = .ok (.iadd, 1) := dc_96 (by decide +kernel)
theorem dX12_inside_212 : decode cX12_inside 212 = .ok (.iaload, 1) := dc_46 (by decide +kernel)
theorem dX12_inside_213 : decode cX12_inside 213 = .ok (.aload_n 0, 1) := dc_42 (by decide +kernel)
theorem dX12_inside_214 : decode cX12_inside 214 = .ok (.getfield 7, 3) := dc_180 0 7 (by decide +kernel)
theorem dX12_inside_217 : decode cX12_inside 217 = .ok (.sipush 2800, 3) := dc_17 10 240 2800 (by decide +kernel)
theorem dX12_inside_220 : decode cX12_inside 220 = .ok (.iload_n 1, 1) := dc_27 (by decide +kernel)
theorem dX12_inside_221 : decode cX12_inside 221 = .ok (.iadd, 1) := dc_96 (by decide +kernel)
theorem dX12_inside_222 : decode cX12_inside 222 = .ok (.iaload, 1) := dc_46 (by decide +kernel)
theorem dX12_inside_223 : decode cX12_inside 223 = .ok (.if_icmp .ge 7, 3) := dc_162 0 7 7 (by decide +kernel)
theorem dX12_inside_226 : decode cX12_inside 226 = .ok (.iconst 1, 1) := dc_4 (by decide +kernel)
theorem dX12_inside_227 : decode cX12_inside 227 = .ok (.goto 4, 3) := dc_167 0 4 4 (by decide +kernel)
theorem dX12_inside_248 : decode cX12_inside 248 = .ok (.iconst 1, 1) := dc_4 (by decide +kernel)
theorem dX12_inside_249 : decode cX12_inside 249 = .ok (.goto 4, 3) := dc_167 0 4 4 (by decide +kernel)
theorem dX12_inside_305 : decode cX12_inside 305 = .ok (.aload_n 0, 1) := dc_42 (by decide +kernel)
theorem dX12_inside_306 : decode cX12_inside 306 = .ok (.getfield 7, 3) := dc_180 0 7 (by decide +kernel)
theorem dX12_inside_309 : decode cX12_inside 309 = .ok (.sipush 160, 3) := dc_17 0 160 160 (by decide +kernel)
theorem dX12_inside_312 : decode cX12_inside 312 = .ok (.iload_n 3, 1) := dc_29 (by decide +kernel)
theorem dX12_inside_313 : decode cX12_inside 313 = .ok (.iadd, 1) := dc_96 (by decide +kernel)
theorem dX12_inside_314 : decode cX12_inside 314 = .ok (.iaload, 1) := dc_46 (by decide +kernel)
theorem dX12_inside_315 : decode cX12_inside 315 = .ok (.bipush 7, 2) := dc_16 7 7 (by decide +kernel)
theorem dX12_inside_317 : decode cX12_inside 317 = .ok (.if_icmp .ge 86, 3) := dc_162 0 86 86 (by decide +kernel)
theorem dX12_inside_403 : decode cX12_inside 403 = .ok (.iinc 3 1, 3) := dc_132 3 1 1 (by decide +kernel)
theorem dX12_inside_406 : decode cX12_inside 406 = .ok (.goto (-111), 3) := dc_167 255 145 (-111) (by decide +kernel)
theorem dX12_inside_320 : decode cX12_inside 320 = .ok (.aload_n 0, 1) := dc_42 (by decide +kernel)
theorem dX12_inside_321 : decode cX12_inside 321 = .ok (.getfield 7, 3) := dc_180 0 7 (by decide +kernel)
theorem dX12_inside_324 : decode cX12_inside 324 = .ok (.sipush 176, 3) := dc_17 0 176 176 (by decide +kernel)
theorem dX12_inside_327 : decode cX12_inside 327 = .ok (.iload_n 3, 1) := dc_29 (by decide +kernel)
theorem dX12_inside_328 : decode cX12_inside 328 = .ok (.iadd, 1) := dc_96 (by decide +kernel)
theorem dX12_inside_329 : decode cX12_inside 329 = .ok (.iaload, 1) := dc_46 (by decide +kernel)
theorem dX12_inside_330 : decode cX12_inside 330 = .ok (.bipush 20, 2) := dc_16 20 20 (by decide +kernel)
theorem dX12_inside_332 : decode cX12_inside 332 = .ok (.if_icmp .ge 17, 3) := dc_162 0 17 17 (by decide +kernel)
theorem dX12_inside_349 : decode cX12_inside 349 = .ok (.aload_n 0, 1) := dc_42 (by decide +kernel)
theorem dX12_inside_350 : decode cX12_inside 350 = .ok (.getfield 7, 3) := dc_180 0 7 (by decide +kernel)
theorem dX12_inside_353 : decode cX12_inside 353 = .ok (.sipush 4103, 3) := dc_17 16 7 4103 (by decide +kernel)
theorem dX12_inside_356 : decode cX12_inside 356 = .ok (.iload_n 1, 1) := dc_27 (by decide +kernel)
theorem dX12_inside_357 : decode cX12_inside 357 = .ok (.iadd, 1) := dc_96 (by decide +kernel)
theorem dX12_inside_358 : decode cX12_inside 358 = .ok (.dup2, 1) := dc_92 (by decide +kernel)
theorem dX12_inside_359 : decode cX12_inside 359 = .ok (.iaload, 1) := dc_46 (by decide +kernel)
theorem dX12_inside_360 : decode cX12_inside 360 = .ok (.aload_n 0, 1) := dc_42 (by decide +kernel)
theorem dX12_inside_361 : decode cX12_inside 361 = .ok (.getfield 7, 3) := dc_180 0 7 (by decide +kernel)
theorem dX12_inside_364 : decode cX12_inside 364 = .ok (.sipush 160, 3) := dc_17 0 160 160 (by decide +kernel)
theorem dX12_inside_367 : decode cX12_inside 367 = .ok (.iload_n 3, 1) := dc_29 (by decide +kernel)
theorem dX12_inside_368 : decode cX12_inside 368 = .ok (.iadd, 1) := dc_96 (by decide +kernel)
theorem dX12_inside_369 : decode cX12_inside 369 = .ok (.iaload, 1) := dc_46 (by decide +kernel)
theorem dX12_inside_370 : decode cX12_inside 370 = .ok (.bipush 6, 2) := dc_16 6 6 (by decide +kernel)
theorem dX12_inside_372 : decode cX12_inside 372 = .ok (.if_icmp .ne 7, 3) := dc_160 0 7 7 (by decide +kernel)
theorem dX12_inside_379 : decode cX12_inside 379 = .ok (.iconst 0, 1) := dc_3 (by decide +kernel)
theorem dX12_inside_380 : decode cX12_inside 380 = .ok (.iadd, 1) := dc_96 (by decide +kernel)
theorem dX12_inside_381 : decode cX12_inside 381 = .ok (.iastore, 1) := dc_79 (by decide +kernel)
theorem dX12_inside_382 : decode cX12_inside 382 = .ok (.aload_n 0, 1) := dc_42 (by decide +kernel)
theorem dX12_inside_383 : decode cX12_inside 383 = .ok (.getfield 7, 3) := dc_180 0 7 (by decide +kernel)
theorem dX12_inside_386 : decode cX12_inside 386 = .ok (.sipush 4404, 3) := dc_17 17 52 4404 (by decide +kernel)
theorem dX12_inside_389 : decode cX12_inside 389 = .ok (.iload_n 1, 1) := dc_27 (by decide +kernel)
theorem dX12_inside_390 : decode cX12_inside 390 = .ok (.iadd, 1) := dc_96 (by decide +kernel)
theorem dX12_inside_391 : decode cX12_inside 391 = .ok (.dup2, 1) := dc_92 (by decide +kernel)
theorem dX12_inside_392 : decode cX12_inside 392 = .ok (.iaload, 1) := dc_46 (by decide +kernel)
theorem dX12_inside_393 : decode cX12_inside 393 = .ok (.iconst 1, 1) := dc_4 (by decide +kernel)
theorem dX12_inside_394 : decode cX12_inside 394 = .ok (.iadd, 1) := dc_96 (by decide +kernel)
theorem dX12_inside_395 : decode cX12_inside 395 = .ok (.iastore, 1) := dc_79 (by decide +kernel)
theorem dX12_inside_396 : decode cX12_inside 396 = .ok (.aload_n 0, 1) := dc_42 (by decide +kernel)
theorem dX12_inside_397 : decode cX12_inside 397 = .ok (.iload_n 3, 1) := dc_29 (by decide +kernel)
theorem dX12_inside_398 : decode cX12_inside 398 = .ok (.bipush 8, 2) := dc_16 8 8 (by decide +kernel)
theorem dX12_inside_400 : decode cX12_inside 400 = .ok (.invokevirtual 263, 3) := dc_182 1 7 (by decide +kernel)
theorem dX12_inside_375 : decode cX12_inside 375 = .ok (.iconst 1, 1) := dc_4 (by decide +kernel)
theorem dX12_inside_376 : decode cX12_inside 376 = .ok (.goto 4, 3) := dc_167 0 4 4 (by decide +kernel)
theorem dX12_inside_335 : decode cX12_inside 335 = .ok (.aload_n 0, 1) := dc_42 (by decide +kernel)
theorem dX12_inside_336 : decode cX12_inside 336 = .ok (.getfield 7, 3) := dc_180 0 7 (by decide +kernel)
theorem dX12_inside_339 : decode cX12_inside 339 = .ok (.sipush 192, 3) := dc_17 0 192 192 (by decide +kernel)
theorem dX12_inside_342 : decode cX12_inside 342 = .ok (.iload_n 3, 1) := dc_29 (by decide +kernel)
theorem dX12_inside_343 : decode cX12_inside 343 = .ok (.iadd, 1) := dc_96 (by decide +kernel)
theorem dX12_inside_344 : decode cX12_inside 344 = .ok (.iaload, 1) := dc_46 (by decide +kernel)
theorem dX12_inside_345 : decode cX12_inside 345 = .ok (.iconst 5, 1) := dc_8 (by decide +kernel)
theorem dX12_inside_346 : decode cX12_inside 346 = .ok (.if_icmp .ne 57, 3) := dc_160 0 57 57 (by decide +kernel)
theorem dX12_inside_421 : decode cX12_inside 421 = .ok (.aload_n 0, 1) := dc_42 (by decide +kernel)
theorem dX12_inside_422 : decode cX12_inside 422 = .ok (.getfield 7, 3) := dc_180 0 7 (by decide +kernel)
theorem dX12_inside_425 : decode cX12_inside 425 = .ok (.sipush 160, 3) := dc_17 0 160 160 (by decide +kernel)
theorem dX12_inside_428 : decode cX12_inside 428 = .ok (.iload_n 3, 1) := dc_29 (by decide +kernel)
theorem dX12_inside_429 : decode cX12_inside 429 = .ok (.iadd, 1) := dc_96 (by decide +kernel)
theorem dX12_inside_430 : decode cX12_inside 430 = .ok (.iaload, 1) := dc_46 (by decide +kernel)
theorem dX12_inside_431 : decode cX12_inside 431 = .ok (.bipush 6, 2) := dc_16 6 6 (by decide +kernel)
theorem dX12_inside_433 : decode cX12_inside 433 = .ok (.if_icmp .ne 59, 3) := dc_160 0 59 59 (by decide +kernel)
theorem dX12_inside_492 : decode cX12_inside 492 = .ok (.iinc 3 1, 3) := dc_132 3 1 1 (by decide +kernel)
theorem dX12_inside_495 : decode cX12_inside 495 = .ok (.goto (-84), 3) := dc_167 255 172 (-84) (by decide +kernel)
theorem dX12_inside_436 : decode cX12_inside 436 = .ok (.aload_n 0, 1) := dc_42 (by decide +kernel)
theorem dX12_inside_437 : decode cX12_inside 437 = .ok (.getfield 7, 3) := dc_180 0 7 (by decide +kernel)
theorem dX12_inside_440 : decode cX12_inside 440 = .ok (.sipush 176, 3) := dc_17 0 176 176 (by decide +kernel)
theorem dX12_inside_443 : decode cX12_inside 443 = .ok (.iload_n 3, 1) := dc_29 (by decide +kernel)
theorem dX12_inside_444 : decode cX12_inside 444 = .ok (.iadd, 1) := dc_96 (by decide +kernel)
theorem dX12_inside_445 : decode cX12_inside 445 = .ok (.iaload, 1) := dc_46 (by decide +kernel)
theorem dX12_inside_446 : decode cX12_inside 446 = .ok (.ifCond .ne 46, 3) := dc_154 0 46 46 (by decide +kernel)
theorem dX12_inside_449 : decode cX12_inside 449 = .ok (.aload_n 0, 1) := dc_42 (by decide +kernel)
theorem dX12_inside_450 : decode cX12_inside 450 = .ok (.getfield 7, 3) := dc_180 0 7 (by decide +kernel)
theorem dX12_inside_453 : decode cX12_inside 453 = .ok (.sipush 144, 3) := dc_17 0 144 144 (by decide +kernel)
theorem dX12_inside_456 : decode cX12_inside 456 = .ok (.iload_n 3, 1) := dc_29 (by decide +kernel)
theorem dX12_inside_457 : decode cX12_inside 457 = .ok (.iadd, 1) := dc_96 (by decide +kernel)
theorem dX12_inside_458 : decode cX12_inside 458 = .ok (.iaload, 1) := dc_46 (by decide +kernel)
theorem dX12_inside_459 : decode cX12_inside 459 = .ok (.iconst 5, 1) := dc_8 (by decide +kernel)
theorem dX12_inside_460 : decode cX12_inside 460 = .ok (.if_icmp .lt 32, 3) := dc_161 0 32 32 (by decide +kernel)
theorem dX12_inside_463 : decode cX12_inside 463 = .ok (.aload_n 0, 1) := dc_42 (by decide +kernel)
theorem dX12_inside_464 : decode cX12_inside 464 = .ok (.getfield 7, 3) := dc_180 0 7 (by decide +kernel)
theorem dX12_inside_467 : decode cX12_inside 467 = .ok (.sipush 2800, 3) := dc_17 10 240 2800 (by decide +kernel)
theorem dX12_inside_470 : decode cX12_inside 470 = .ok (.iload_n 1, 1) := dc_27 (by decide +kernel)
theorem dX12_inside_471 : decode cX12_inside 471 = .ok (.iadd, 1) := dc_96 (by decide +kernel)
theorem dX12_inside_472 : decode cX12_inside 472 = .ok (.iaload, 1) := dc_46 (by decide +kernel)
theorem dX12_inside_473 : decode cX12_inside 473 = .ok (.iconst 4, 1) := dc_7 (by decide +kernel)
theorem dX12_inside_474 : decode cX12_inside 474 = .ok (.if_icmp .ge 18, 3) := dc_162 0 18 18 (by decide +kernel)
theorem dX12_inside_477 : decode cX12_inside 477 = .ok (.aload_n 0, 1) := dc_42 (by decide +kernel)
theorem dX12_inside_478 : decode cX12_inside 478 = .ok (.iload_n 3, 1) := dc_29 (by decide +kernel)
theorem dX12_inside_479 : decode cX12_inside 479 = .ok (.aload_n 0, 1) := dc_42 (by decide +kernel)
theorem dX12_inside_480 : decode cX12_inside 480 = .ok (.getfield 7, 3) := dc_180 0 7 (by decide +kernel)
theorem dX12_inside_483 : decode cX12_inside 483 = .ok (.sipush 240, 3) := dc_17 0 240 240 (by decide +kernel)
theorem dX12_inside_486 : decode cX12_inside 486 = .ok (.iload_n 3, 1) := dc_29 (by decide +kernel)
theorem dX12_inside_487 : decode cX12_inside 487 = .ok (.iadd, 1) := dc_96 (by decide +kernel)
theorem dX12_inside_488 : decode cX12_inside 488 = .ok (.iaload, 1) := dc_46 (by decide +kernel)
theorem dX12_inside_489 : decode cX12_inside 489 = .ok (.invokevirtual 263, 3) := dc_182 1 7 (by decide +kernel)
abbrev R_X12_inside : Room := { frames := 3, cells := 0, slots := 0, locals := 72 }
set_option maxRecDepth 100000 in
set_option maxHeartbeats 4000000 in
theorem s_X12_inside {l : Launch} {n0 : Nat} {D : va_G} {cA : Nat → ClassId} {M : gM} (a : Int) (r_a : 0 ≤ a ∧ a ≤ 299) {sz : Nat} (hsz : 206 ≤ sz) (I : gI sz M) (C : gC sz M) (W : gW 191 M)  : Met l yX12_inside (gWsOf yX12_inside cX12_inside 7 (Option.none : Option Jvm.ClassFile.FieldType)) R_X12_inside (gPc n0 D cA [gA n0 190, gJ a] M sz) (gQv n0 D cA sz (fun M1 => gI sz M1 ∧ gC sz M1 ∧ gFr 5765737820987588608 M M1)) 0 0 (fun q => n0 ≤ q) := by
  refine gMetV [gA n0 190, gJ a] (by decide) (Nat.le_of_ble_eq_true rfl) ⟨rfl, rfl⟩ ?_
  intro p e s m args below meth cd Q X hq
  have X : gCx p s m args meth cd n0 D cA "ParishUnionModel" cX12_inside 7 := X
  show G p l e R_X12_inside s m args below meth cd n0 D cA 7 Q 0 0 M sz 0 [(0, gA n0 190), (1, gJ a)] []
  obtain ⟨v1, hv1, rv1⟩ := gRd I (by decide) (gsz hsz (by decide)) (rs_PERS (k := 1) (by omega)).1
  refine g_aload_n (n := 1) X 0 dX12_inside_0 rfl rfl rfl ?_
  refine g_iconst (n := 2) X dX12_inside_1 rfl ?_
  refine g_iload_n (n := 3) X 1 dX12_inside_2 rfl rfl rfl ?_
  refine g_callVi (n := 6) (As := [gJ 2, gJ a]) (rest := []) (cs1 := 0) (ss1 := 0) X (s_X12_law 2 (by omega) a (by omega) hsz I C ) okX12_law kw_6_193 ⟨kw_6_195, kw_0_49⟩ ⟨rfl, rfl⟩ ⟨Nat.le_of_ble_eq_true rfl, Nat.le_of_ble_eq_true rfl⟩ rfl (by decide) (gsz hsz (by decide)) lay_190 rfl rfl (Nat.le_of_ble_eq_true rfl) ⟨Nat.le_of_ble_eq_true rfl, Nat.le_of_ble_eq_true rfl⟩ rfl rfl dX12_inside_3 rfl (fun v2 M3 P4 => ?_)
  obtain ⟨rfl, rv2⟩ := P4
  refine g_istore_n (n := 7) (L' := [(2, gJ v2), (0, gA n0 190), (1, gJ a)]) X dX12_inside_6 rfl (by decide) rfl rfl ?_
  refine g_iconst (n := 8) X dX12_inside_7 rfl ?_
  refine g_istore_n (n := 9) (L' := [(3, gJ 0), (2, gJ v2), (0, gA n0 190), (1, gJ a)]) X dX12_inside_8 rfl (by decide) rfl rfl ?_
  have j7 : ∀ (N94401 : Nat) (v5 : Int) (M6 : gM) , (0 ≤ v5 ∧ v5 ≤ 16) → gI sz M6 → gC sz M6 → gFr 5765737820987588608 M M6 → (16 - v5).toNat < N94401 → G p l e R_X12_inside s m args below meth cd n0 D cA 7 Q 0 0 M6 sz 9 [(0, gA n0 190), (1, gJ a), (2, gJ v2), (3, gJ v5)] [] := by
    intro N94401; induction N94401 with
    | zero => intro v5 M6 rv5 IM6 CM6 FM6 hm94403; exfalso; omega
    | succ N94401 ih94402 =>
      intro v5 M6 rv5 IM6 CM6 FM6 hm94403
      refine g_iload_n (n := 10) X 3 dX12_inside_9 rfl rfl rfl ?_
      refine g_aload_n (n := 11) X 0 dX12_inside_10 rfl rfl rfl ?_
      refine gg_12_1 (n := 14) (z := 191) X (by decide) (gsz hsz (by decide)) lay_190 kw_6_27 dX12_inside_11 rfl (rf_190_1 IM6 (gsz hsz (by decide))) (by decide) ?_
      refine g_iconst (n := 15) X dX12_inside_14 rfl ?_
      refine g_iald2 (n := 16) (v := v1) X (by decide) (gsz hsz (by decide)) lay_191 (by omega) (by omega) (by decide) dX12_inside_15 rfl ((gFr.at FM6 (rs_PERS (k := 1) (by omega)).2.2 rfl).trans hv1) ?_
      refine g_icmp_ge (n := 19) (tgt := 143) X dX12_inside_16 (by decide) (by omega) (by omega) rfl (fun c94404 => ?_) (fun c94404 => ?_)
      · refine g_iconst (n := 144) X dX12_inside_143 rfl ?_
        refine g_istore_n (n := 145) (L' := [(3, gJ 0), (0, gA n0 190), (1, gJ a), (2, gJ v2)]) X dX12_inside_144 rfl (by decide) rfl rfl ?_
        have j94440 : ∀ (N111287 : Nat) (v94438 : Int) (M94439 : gM) , (0 ≤ v94438 ∧ v94438 ≤ 16) → gI sz M94439 → gC sz M94439 → gFr 1125899906842624 M6 M94439 → (16 - v94438).toNat < N111287 → G p l e R_X12_inside s m args below meth cd n0 D cA 7 Q 0 0 M94439 sz 145 [(0, gA n0 190), (1, gJ a), (3, gJ v94438)] [] := by
          intro N111287; induction N111287 with
          | zero => intro v94438 M94439 rv94438 IM94439 CM94439 FM94439 hm111289; exfalso; omega
          | succ N111287 ih111288 =>
            intro v94438 M94439 rv94438 IM94439 CM94439 FM94439 hm111289
            refine g_iload_n (n := 146) X 2 dX12_inside_145 rfl rfl rfl ?_
            refine g_aload_n (n := 147) X 0 dX12_inside_146 rfl rfl rfl ?_
            refine gg_12_1 (n := 150) (z := 191) X (by decide) (gsz hsz (by decide)) lay_190 kw_6_27 dX12_inside_147 rfl (rf_190_1 IM94439 (gsz hsz (by decide))) (by decide) ?_
            refine g_iconst (n := 151) X dX12_inside_150 rfl ?_
            refine g_iald2 (n := 152) (v := v1) X (by decide) (gsz hsz (by decide)) lay_191 (by omega) (by omega) (by decide) dX12_inside_151 rfl ((gFr.at FM94439 (rs_PERS (k := 1) (by omega)).2.2 rfl).trans ((gFr.at FM6 (rs_PERS (k := 1) (by omega)).2.2 rfl).trans hv1)) ?_
            refine g_icmp_ge (n := 155) (tgt := 293) X dX12_inside_152 (by decide) (by omega) (by omega) rfl (fun c111290 => ?_) (fun c111290 => ?_)
            · refine g_iconst (n := 294) X dX12_inside_293 rfl ?_
              refine g_istore_n (n := 295) (L' := [(3, gJ 0), (0, gA n0 190), (1, gJ a)]) X dX12_inside_294 rfl (by decide) rfl rfl ?_
              have j111338 : ∀ (N113721 : Nat) (v111336 : Int) (M111337 : gM) , (0 ≤ v111336 ∧ v111336 ≤ 16) → gI sz M111337 → gC sz M111337 → gFr 1154047404513689600 M94439 M111337 → (16 - v111336).toNat < N113721 → G p l e R_X12_inside s m args below meth cd n0 D cA 7 Q 0 0 M111337 sz 295 [(0, gA n0 190), (1, gJ a), (3, gJ v111336)] [] := by
                intro N113721; induction N113721 with
                | zero => intro v111336 M111337 rv111336 IM111337 CM111337 FM111337 hm113723; exfalso; omega
                | succ N113721 ih113722 =>
                  intro v111336 M111337 rv111336 IM111337 CM111337 FM111337 hm113723
                  refine g_iload_n (n := 296) X 2 dX12_inside_295 rfl rfl rfl ?_
                  refine g_aload_n (n := 297) X 0 dX12_inside_296 rfl rfl rfl ?_
                  refine gg_12_1 (n := 300) (z := 191) X (by decide) (gsz hsz (by decide)) lay_190 kw_6_27 dX12_inside_297 rfl (rf_190_1 IM111337 (gsz hsz (by decide))) (by decide) ?_
                  refine g_iconst (n := 301) X dX12_inside_300 rfl ?_
                  refine g_iald2 (n := 302) (v := v1) X (by decide) (gsz hsz (by decide)) lay_191 (by omega) (by omega) (by decide) dX12_inside_301 rfl ((gFr.at FM111337 (rs_PERS (k := 1) (by omega)).2.2 rfl).trans ((gFr.at FM94439 (rs_PERS (k := 1) (by omega)).2.2 rfl).trans ((gFr.at FM6 (rs_PERS (k := 1) (by omega)).2.2 rfl).trans hv1))) ?_
                  refine g_icmp_ge (n := 305) (tgt := 409) X dX12_inside_302 (by decide) (by omega) (by omega) rfl (fun c113724 => ?_) (fun c113724 => ?_)
                  · refine g_iconst (n := 410) X dX12_inside_409 rfl ?_
                    refine g_istore_n (n := 411) (L' := [(3, gJ 0), (0, gA n0 190), (1, gJ a)]) X dX12_inside_410 rfl (by decide) rfl rfl ?_
                    have j113775 : ∀ (N113932 : Nat) (v113773 : Int) (M113774 : gM) , (0 ≤ v113773 ∧ v113773 ≤ 16) → gI sz M113774 → gC sz M113774 → gFr 1125899906842624 M111337 M113774 → (16 - v113773).toNat < N113932 → G p l e R_X12_inside s m args below meth cd n0 D cA 7 Q 0 0 M113774 sz 411 [(0, gA n0 190), (1, gJ a), (3, gJ v113773)] [] := by
                      intro N113932; induction N113932 with
                      | zero => intro v113773 M113774 rv113773 IM113774 CM113774 FM113774 hm113934; exfalso; omega
                      | succ N113932 ih113933 =>
                        intro v113773 M113774 rv113773 IM113774 CM113774 FM113774 hm113934
                        refine g_iload_n (n := 412) X 2 dX12_inside_411 rfl rfl rfl ?_
                        refine g_aload_n (n := 413) X 0 dX12_inside_412 rfl rfl rfl ?_
                        refine gg_12_1 (n := 416) (z := 191) X (by decide) (gsz hsz (by decide)) lay_190 kw_6_27 dX12_inside_413 rfl (rf_190_1 IM113774 (gsz hsz (by decide))) (by decide) ?_
                        refine g_iconst (n := 417) X dX12_inside_416 rfl ?_
                        refine g_iald2 (n := 418) (v := v1) X (by decide) (gsz hsz (by decide)) lay_191 (by omega) (by omega) (by decide) dX12_inside_417 rfl ((gFr.at FM113774 (rs_PERS (k := 1) (by omega)).2.2 rfl).trans ((gFr.at FM111337 (rs_PERS (k := 1) (by omega)).2.2 rfl).trans ((gFr.at FM94439 (rs_PERS (k := 1) (by omega)).2.2 rfl).trans ((gFr.at FM6 (rs_PERS (k := 1) (by omega)).2.2 rfl).trans hv1)))) ?_
                        refine g_icmp_ge (n := 421) (tgt := 498) X dX12_inside_418 (by decide) (by omega) (by omega) rfl (fun c113935 => ?_) (fun c113935 => ?_)
                        · exact hq _ _ _ dX12_inside_498 ⟨IM113774, CM113774, (gFr.c (gFr.c (gFr.c (gFr.c gFr.rf FM6 rfl) FM94439 rfl) FM111337 rfl) FM113774 rfl)⟩
                        · refine g_aload_n (n := 422) X 0 dX12_inside_421 rfl rfl rfl ?_
                          refine gg_12_1 (n := 425) (z := 191) X (by decide) (gsz hsz (by decide)) lay_190 kw_6_27 dX12_inside_422 rfl (rf_190_1 IM113774 (gsz hsz (by decide))) (by decide) ?_
                          refine g_sipush (n := 428) X dX12_inside_425 (by decide +kernel) rfl ?_
                          refine g_iload_n (n := 429) X 2 dX12_inside_428 rfl rfl rfl ?_
                          refine g_iadd (n := 430) (z := v113773 + 160) X dX12_inside_429 (by omega) rfl ?_
                          obtain ⟨v113936, hv113936, rv113936⟩ := gRd IM113774 (by decide) (gsz hsz (by decide)) (rs_AT (k := v113773 + 160) (by omega)).1
                          refine g_iald2 (n := 431) (v := v113936) X (by decide) (gsz hsz (by decide)) lay_191 (by omega) (by omega) (by decide) dX12_inside_430 rfl hv113936 ?_
                          refine g_bipush (n := 433) X dX12_inside_431 (by decide +kernel) rfl ?_
                          refine g_icmp_ne (n := 436) (tgt := 492) X dX12_inside_433 (by decide) (by omega) (by omega) rfl (fun c113937 => ?_) (fun c113937 => ?_)
                          · refine g_iinc (n := 495) (w := v113773 + 1) (L' := [(3, gJ (v113773 + 1)), (0, gA n0 190), (1, gJ a)]) X 2 dX12_inside_492 rfl rfl (by decide) rfl rfl ?_
                            refine g_goto (tgt := 411) X dX12_inside_495 (by decide) ?_
                            refine G.sub (L' := [(0, gA n0 190), (1, gJ a), (3, gJ (v113773 + 1))]) [1, 2, 0] rfl ?_
                            exact ih113933 (v113773 + 1) M113774 (by omega) IM113774 CM113774 (gFr.c gFr.rf FM113774 rfl) (by omega)
                          · refine g_aload_n (n := 437) X 0 dX12_inside_436 rfl rfl rfl ?_
                            refine gg_12_1 (n := 440) (z := 191) X (by decide) (gsz hsz (by decide)) lay_190 kw_6_27 dX12_inside_437 rfl (rf_190_1 IM113774 (gsz hsz (by decide))) (by decide) ?_
                            refine g_sipush (n := 443) X dX12_inside_440 (by decide +kernel) rfl ?_
                            refine g_iload_n (n := 444) X 2 dX12_inside_443 rfl rfl rfl ?_
                            refine g_iadd (n := 445) (z := v113773 + 176) X dX12_inside_444 (by omega) rfl ?_
                            obtain ⟨v113938, hv113938, rv113938⟩ := gRd IM113774 (by decide) (gsz hsz (by decide)) (rs_HUNGER (k := v113773 + 176) (by omega)).1
                            refine g_iald2 (n := 446) (v := v113938) X (by decide) (gsz hsz (by decide)) lay_191 (by omega) (by omega) (by decide) dX12_inside_445 rfl hv113938 ?_
                            refine g_if_ne (n := 449) (tgt := 492) X dX12_inside_446 (by decide) (by omega) rfl (fun c113939 => ?_) (fun c113939 => ?_)
                            · refine g_iinc (n := 495) (w := v113773 + 1) (L' := [(3, gJ (v113773 + 1)), (0, gA n0 190), (1, gJ a)]) X 2 dX12_inside_492 rfl rfl (by decide) rfl rfl ?_
                              refine g_goto (tgt := 411) X dX12_inside_495 (by decide) ?_
                              refine G.sub (L' := [(0, gA n0 190), (1, gJ a), (3, gJ (v113773 + 1))]) [1, 2, 0] rfl ?_
                              exact ih113933 (v113773 + 1) M113774 (by omega) IM113774 CM113774 (gFr.c gFr.rf FM113774 rfl) (by omega)
                            · refine g_aload_n (n := 450) X 0 dX12_inside_449 rfl rfl rfl ?_
                              refine gg_12_1 (n := 453) (z := 191) X (by decide) (gsz hsz (by decide)) lay_190 kw_6_27 dX12_inside_450 rfl (rf_190_1 IM113774 (gsz hsz (by decide))) (by decide) ?_
                              refine g_sipush (n := 456) X dX12_inside_453 (by decide +kernel) rfl ?_
                              refine g_iload_n (n := 457) X 2 dX12_inside_456 rfl rfl rfl ?_
                              refine g_iadd (n := 458) (z := v113773 + 144) X dX12_inside_457 (by omega) rfl ?_
                              obtain ⟨v113940, hv113940, rv113940⟩ := gRd IM113774 (by decide) (gsz hsz (by decide)) (rs_STRONG (k := v113773 + 144) (by omega)).1
                              refine g_iald2 (n := 459) (v := v113940) X (by decide) (gsz hsz (by decide)) lay_191 (by omega) (by omega) (by decide) dX12_inside_458 rfl hv113940 ?_
                              refine g_iconst (n := 460) X dX12_inside_459 rfl ?_
                              refine g_icmp_lt (n := 463) (tgt := 492) X dX12_inside_460 (by decide) (by omega) (by omega) rfl (fun c113941 => ?_) (fun c113941 => ?_)
                              · refine g_iinc (n := 495) (w := v113773 + 1) (L' := [(3, gJ (v113773 + 1)), (0, gA n0 190), (1, gJ a)]) X 2 dX12_inside_492 rfl rfl (by decide) rfl rfl ?_
                                refine g_goto (tgt := 411) X dX12_inside_495 (by decide) ?_
                                refine G.sub (L' := [(0, gA n0 190), (1, gJ a), (3, gJ (v113773 + 1))]) [1, 2, 0] rfl ?_
                                exact ih113933 (v113773 + 1) M113774 (by omega) IM113774 CM113774 (gFr.c gFr.rf FM113774 rfl) (by omega)
                              · refine g_aload_n (n := 464) X 0 dX12_inside_463 rfl rfl rfl ?_
                                refine gg_12_1 (n := 467) (z := 191) X (by decide) (gsz hsz (by decide)) lay_190 kw_6_27 dX12_inside_464 rfl (rf_190_1 IM113774 (gsz hsz (by decide))) (by decide) ?_
                                refine g_sipush (n := 470) X dX12_inside_467 (by decide +kernel) rfl ?_
                                refine g_iload_n (n := 471) X 1 dX12_inside_470 rfl rfl rfl ?_
                                refine g_iadd (n := 472) (z := a + 2800) X dX12_inside_471 (by omega) rfl ?_
                                obtain ⟨v113942, hv113942, rv113942⟩ := gRd IM113774 (by decide) (gsz hsz (by decide)) (rs_FROST (k := a + 2800) (by omega)).1
                                refine g_iald2 (n := 473) (v := v113942) X (by decide) (gsz hsz (by decide)) lay_191 (by omega) (by omega) (by decide) dX12_inside_472 rfl hv113942 ?_
                                refine g_iconst (n := 474) X dX12_inside_473 rfl ?_
                                refine g_icmp_ge (n := 477) (tgt := 492) X dX12_inside_474 (by decide) (by omega) (by omega) rfl (fun c113943 => ?_) (fun c113943 => ?_)
                                · refine g_iinc (n := 495) (w := v113773 + 1) (L' := [(3, gJ (v113773 + 1)), (0, gA n0 190), (1, gJ a)]) X 2 dX12_inside_492 rfl rfl (by decide) rfl rfl ?_
                                  refine g_goto (tgt := 411) X dX12_inside_495 (by decide) ?_
                                  refine G.sub (L' := [(0, gA n0 190), (1, gJ a), (3, gJ (v113773 + 1))]) [1, 2, 0] rfl ?_
                                  exact ih113933 (v113773 + 1) M113774 (by omega) IM113774 CM113774 (gFr.c gFr.rf FM113774 rfl) (by omega)
                                · refine g_aload_n (n := 478) X 0 dX12_inside_477 rfl rfl rfl ?_
                                  refine g_iload_n (n := 479) X 2 dX12_inside_478 rfl rfl rfl ?_
                                  refine g_aload_n (n := 480) X 0 dX12_inside_479 rfl rfl rfl ?_
                                  refine gg_12_1 (n := 483) (z := 191) X (by decide) (gsz hsz (by decide)) lay_190 kw_6_27 dX12_inside_480 rfl (rf_190_1 IM113774 (gsz hsz (by decide))) (by decide) ?_
                                  refine g_sipush (n := 486) X dX12_inside_483 (by decide +kernel) rfl ?_
                                  refine g_iload_n (n := 487) X 2 dX12_inside_486 rfl rfl rfl ?_
                                  refine g_iadd (n := 488) (z := v113773 + 240) X dX12_inside_487 (by omega) rfl ?_
                                  obtain ⟨v113944, hv113944, rv113944⟩ := gRd IM113774 (by decide) (gsz hsz (by decide)) (rs_CAME (k := v113773 + 240) (by omega)).1
                                  refine g_iald2 (n := 489) (v := v113944) X (by decide) (gsz hsz (by decide)) lay_191 (by omega) (by omega) (by decide) dX12_inside_488 rfl hv113944 ?_
                                  refine g_callVv (n := 492) (As := [gJ v113773, gJ v113944]) (rest := []) (cs1 := 0) (ss1 := 0) X (s_X12_leaves v113773 (by omega) v113944 (by omega) hsz IM113774 CM113774 ) okX12_leaves kw_7_162 ⟨kw_7_164, kw_0_81⟩ ⟨rfl, rfl⟩ ⟨Nat.le_of_ble_eq_true rfl, Nat.le_of_ble_eq_true rfl⟩ rfl (by decide) (gsz hsz (by decide)) lay_190 rfl rfl (Nat.le_of_ble_eq_true rfl) ⟨Nat.le_of_ble_eq_true rfl, Nat.le_of_ble_eq_true rfl⟩ rfl rfl dX12_inside_489 rfl (fun M113946 P113947 => ?_)
                                  obtain ⟨IM113946, CM113946, FM113946⟩ := P113947
                                  refine g_iinc (n := 495) (w := v113773 + 1) (L' := [(3, gJ (v113773 + 1)), (0, gA n0 190), (1, gJ a)]) X 2 dX12_inside_492 rfl rfl (by decide) rfl rfl ?_
                                  refine g_goto (tgt := 411) X dX12_inside_495 (by decide) ?_
                                  refine G.sub (L' := [(0, gA n0 190), (1, gJ a), (3, gJ (v113773 + 1))]) [1, 2, 0] rfl ?_
                                  exact ih113933 (v113773 + 1) M113946 (by omega) IM113946 CM113946 (gFr.c (gFr.c gFr.rf FM113774 rfl) FM113946 rfl) (by omega)
                    refine G.sub (L' := [(0, gA n0 190), (1, gJ a), (3, gJ 0)]) [1, 2, 0] rfl ?_
                    exact j113775 _ 0 M111337 (by omega) IM111337 CM111337 gFr.rf (Nat.lt_succ_self _)
                  · refine g_aload_n (n := 306) X 0 dX12_inside_305 rfl rfl rfl ?_
                    refine gg_12_1 (n := 309) (z := 191) X (by decide) (gsz hsz (by decide)) lay_190 kw_6_27 dX12_inside_306 rfl (rf_190_1 IM111337 (gsz hsz (by decide))) (by decide) ?_
                    refine g_sipush (n := 312) X dX12_inside_309 (by decide +kernel) rfl ?_
                    refine g_iload_n (n := 313) X 2 dX12_inside_312 rfl rfl rfl ?_
                    refine g_iadd (n := 314) (z := v111336 + 160) X dX12_inside_313 (by omega) rfl ?_
                    obtain ⟨v113948, hv113948, rv113948⟩ := gRd IM111337 (by decide) (gsz hsz (by decide)) (rs_AT (k := v111336 + 160) (by omega)).1
                    refine g_iald2 (n := 315) (v := v113948) X (by decide) (gsz hsz (by decide)) lay_191 (by omega) (by omega) (by decide) dX12_inside_314 rfl hv113948 ?_
                    refine g_bipush (n := 317) X dX12_inside_315 (by decide +kernel) rfl ?_
                    refine g_icmp_ge (n := 320) (tgt := 403) X dX12_inside_317 (by decide) (by omega) (by omega) rfl (fun c113949 => ?_) (fun c113949 => ?_)
                    · refine g_iinc (n := 406) (w := v111336 + 1) (L' := [(3, gJ (v111336 + 1)), (0, gA n0 190), (1, gJ a)]) X 2 dX12_inside_403 rfl rfl (by decide) rfl rfl ?_
                      refine g_goto (tgt := 295) X dX12_inside_406 (by decide) ?_
                      refine G.sub (L' := [(0, gA n0 190), (1, gJ a), (3, gJ (v111336 + 1))]) [1, 2, 0] rfl ?_
                      exact ih113722 (v111336 + 1) M111337 (by omega) IM111337 CM111337 (gFr.c gFr.rf FM111337 rfl) (by omega)
                    · refine g_aload_n (n := 321) X 0 dX12_inside_320 rfl rfl rfl ?_
                      refine gg_12_1 (n := 324) (z := 191) X (by decide) (gsz hsz (by decide)) lay_190 kw_6_27 dX12_inside_321 rfl (rf_190_1 IM111337 (gsz hsz (by decide))) (by decide) ?_
                      refine g_sipush (n := 327) X dX12_inside_324 (by decide +kernel) rfl ?_
                      refine g_iload_n (n := 328) X 2 dX12_inside_327 rfl rfl rfl ?_
                      refine g_iadd (n := 329) (z := v111336 + 176) X dX12_inside_328 (by omega) rfl ?_
                      obtain ⟨v113950, hv113950, rv113950⟩ := gRd IM111337 (by decide) (gsz hsz (by decide)) (rs_HUNGER (k := v111336 + 176) (by omega)).1
                      refine g_iald2 (n := 330) (v := v113950) X (by decide) (gsz hsz (by decide)) lay_191 (by omega) (by omega) (by decide) dX12_inside_329 rfl hv113950 ?_
                      refine g_bipush (n := 332) X dX12_inside_330 (by decide +kernel) rfl ?_
                      refine g_icmp_ge (n := 335) (tgt := 349) X dX12_inside_332 (by decide) (by omega) (by omega) rfl (fun c113951 => ?_) (fun c113951 => ?_)
                      · refine g_aload_n (n := 350) X 0 dX12_inside_349 rfl rfl rfl ?_
                        refine gg_12_1 (n := 353) (z := 191) X (by decide) (gsz hsz (by decide)) lay_190 kw_6_27 dX12_inside_350 rfl (rf_190_1 IM111337 (gsz hsz (by decide))) (by decide) ?_
                        refine g_sipush (n := 356) X dX12_inside_353 (by decide +kernel) rfl ?_
                        refine g_iload_n (n := 357) X 1 dX12_inside_356 rfl rfl rfl ?_
                        refine g_iadd (n := 358) (z := a + 4103) X dX12_inside_357 (by omega) rfl ?_
                        refine g_dup2 (n := 359) X dX12_inside_358 rfl rfl rfl ?_
                        obtain ⟨v113952, hv113952, rv113952⟩ := gRd IM111337 (by decide) (gsz hsz (by decide)) (rs_G (k := a + 4103) (by omega)).1
                        refine g_iald2 (n := 360) (v := v113952) X (by decide) (gsz hsz (by decide)) lay_191 (by omega) (by omega) (by decide) dX12_inside_359 rfl hv113952 ?_
                        refine g_aload_n (n := 361) X 0 dX12_inside_360 rfl rfl rfl ?_
                        refine gg_12_1 (n := 364) (z := 191) X (by decide) (gsz hsz (by decide)) lay_190 kw_6_27 dX12_inside_361 rfl (rf_190_1 IM111337 (gsz hsz (by decide))) (by decide) ?_
                        refine g_sipush (n := 367) X dX12_inside_364 (by decide +kernel) rfl ?_
                        refine g_iload_n (n := 368) X 2 dX12_inside_367 rfl rfl rfl ?_
                        refine g_iadd (n := 369) (z := v111336 + 160) X dX12_inside_368 (by omega) rfl ?_
                        refine g_iald2 (n := 370) (v := v113948) X (by decide) (gsz hsz (by decide)) lay_191 (by omega) (by omega) (by decide) dX12_inside_369 rfl hv113948 ?_
                        refine g_bipush (n := 372) X dX12_inside_370 (by decide +kernel) rfl ?_
                        refine g_icmp_ne (n := 375) (tgt := 379) X dX12_inside_372 (by decide) (by omega) (by omega) rfl (fun c113953 => ?_) (fun c113953 => ?_)
                        · refine g_iconst (n := 380) X dX12_inside_379 rfl ?_
                          refine g_iadd (n := 381) (z := v113952) X dX12_inside_380 (by omega) rfl ?_
                          refine g_iast (n := 382) X (by decide) (gsz hsz (by decide)) lay_191 (by omega) (by omega) (by decide) dX12_inside_381 rfl ?_
                          refine G.nm (fun M113954 e113955 => ?_)
                          have IM113954 : gI sz M113954 := gI.set IM111337 (rs_G (k := a + 4103) (by omega)).1 (by omega) e113955
                          have CM113954 : gC sz M113954 := gC.set CM111337 (rs_G (k := a + 4103) (by omega)).2.1 e113955
                          refine g_aload_n (n := 383) X 0 dX12_inside_382 rfl rfl rfl ?_
                          refine gg_12_1 (n := 386) (z := 191) X (by decide) (gsz hsz (by decide)) lay_190 kw_6_27 dX12_inside_383 rfl (rf_190_1 IM113954 (gsz hsz (by decide))) (by decide) ?_
                          refine g_sipush (n := 389) X dX12_inside_386 (by decide +kernel) rfl ?_
                          refine g_iload_n (n := 390) X 1 dX12_inside_389 rfl rfl rfl ?_
                          refine g_iadd (n := 391) (z := a + 4404) X dX12_inside_390 (by omega) rfl ?_
                          refine g_dup2 (n := 392) X dX12_inside_391 rfl rfl rfl ?_
                          obtain ⟨v113956, hv113956, rv113956⟩ := gRd IM113954 (by decide) (gsz hsz (by decide)) (rs_G (k := a + 4404) (by omega)).1
                          refine g_iald2 (n := 393) (v := v113956) X (by decide) (gsz hsz (by decide)) lay_191 (by omega) (by omega) (by decide) dX12_inside_392 rfl hv113956 ?_
                          refine g_iconst (n := 394) X dX12_inside_393 rfl ?_
                          refine g_iaddA (n := 395) X dX12_inside_394 rfl (fun v113957 rv113957 xv113957 => ?_)
                          clear xv113957
                          refine g_iast (n := 396) X (by decide) (gsz hsz (by decide)) lay_191 (by omega) (by omega) (by decide) dX12_inside_395 rfl ?_
                          refine G.nm (fun M113958 e113959 => ?_)
                          have IM113958 : gI sz M113958 := gI.set IM113954 (rs_G (k := a + 4404) (by omega)).1 (by omega) e113959
                          have CM113958 : gC sz M113958 := gC.set CM113954 (rs_G (k := a + 4404) (by omega)).2.1 e113959
                          refine g_aload_n (n := 397) X 0 dX12_inside_396 rfl rfl rfl ?_
                          refine g_iload_n (n := 398) X 2 dX12_inside_397 rfl rfl rfl ?_
                          refine g_bipush (n := 400) X dX12_inside_398 (by decide +kernel) rfl ?_
                          refine g_callVv (n := 403) (As := [gJ v111336, gJ 8]) (rest := []) (cs1 := 0) (ss1 := 0) X (s_X12_leaves v111336 (by omega) 8 (by omega) hsz IM113958 CM113958 ) okX12_leaves kw_7_162 ⟨kw_7_164, kw_0_81⟩ ⟨rfl, rfl⟩ ⟨Nat.le_of_ble_eq_true rfl, Nat.le_of_ble_eq_true rfl⟩ rfl (by decide) (gsz hsz (by decide)) lay_190 rfl rfl (Nat.le_of_ble_eq_true rfl) ⟨Nat.le_of_ble_eq_true rfl, Nat.le_of_ble_eq_true rfl⟩ rfl rfl dX12_inside_400 rfl (fun M113961 P113962 => ?_)
                          obtain ⟨IM113961, CM113961, FM113961⟩ := P113962
                          refine g_iinc (n := 406) (w := v111336 + 1) (L' := [(3, gJ (v111336 + 1)), (0, gA n0 190), (1, gJ a)]) X 2 dX12_inside_403 rfl rfl (by decide) rfl rfl ?_
                          refine g_goto (tgt := 295) X dX12_inside_406 (by decide) ?_
                          refine G.sub (L' := [(0, gA n0 190), (1, gJ a), (3, gJ (v111336 + 1))]) [1, 2, 0] rfl ?_
                          exact ih113722 (v111336 + 1) M113961 (by omega) IM113961 CM113961 (gFr.c (gFr.s (gFr.s (gFr.c gFr.rf FM111337 rfl) e113955 (rs_G (k := a + 4103) (by omega)).2.2 rfl) e113959 (rs_G (k := a + 4404) (by omega)).2.2 rfl) FM113961 rfl) (by omega)
                        · refine g_iconst (n := 376) X dX12_inside_375 rfl ?_
                          refine g_goto (tgt := 380) X dX12_inside_376 (by decide) ?_
                          refine g_iaddA (n := 381) X dX12_inside_380 rfl (fun v113963 rv113963 xv113963 => ?_)
                          clear xv113963
                          refine g_iast (n := 382) X (by decide) (gsz hsz (by decide)) lay_191 (by omega) (by omega) (by decide) dX12_inside_381 rfl ?_
                          refine G.nm (fun M113964 e113965 => ?_)
                          have IM113964 : gI sz M113964 := gI.set IM111337 (rs_G (k := a + 4103) (by omega)).1 (by omega) e113965
                          have CM113964 : gC sz M113964 := gC.set CM111337 (rs_G (k := a + 4103) (by omega)).2.1 e113965
                          refine g_aload_n (n := 383) X 0 dX12_inside_382 rfl rfl rfl ?_
                          refine gg_12_1 (n := 386) (z := 191) X (by decide) (gsz hsz (by decide)) lay_190 kw_6_27 dX12_inside_383 rfl (rf_190_1 IM113964 (gsz hsz (by decide))) (by decide) ?_
                          refine g_sipush (n := 389) X dX12_inside_386 (by decide +kernel) rfl ?_
                          refine g_iload_n (n := 390) X 1 dX12_inside_389 rfl rfl rfl ?_
                          refine g_iadd (n := 391) (z := a + 4404) X dX12_inside_390 (by omega) rfl ?_
                          refine g_dup2 (n := 392) X dX12_inside_391 rfl rfl rfl ?_
                          obtain ⟨v113966, hv113966, rv113966⟩ := gRd IM113964 (by decide) (gsz hsz (by decide)) (rs_G (k := a + 4404) (by omega)).1
                          refine g_iald2 (n := 393) (v := v113966) X (by decide) (gsz hsz (by decide)) lay_191 (by omega) (by omega) (by decide) dX12_inside_392 rfl hv113966 ?_
                          refine g_iconst (n := 394) X dX12_inside_393 rfl ?_
                          refine g_iaddA (n := 395) X dX12_inside_394 rfl (fun v113967 rv113967 xv113967 => ?_)
                          clear xv113967
                          refine g_iast (n := 396) X (by decide) (gsz hsz (by decide)) lay_191 (by omega) (by omega) (by decide) dX12_inside_395 rfl ?_
                          refine G.nm (fun M113968 e113969 => ?_)
                          have IM113968 : gI sz M113968 := gI.set IM113964 (rs_G (k := a + 4404) (by omega)).1 (by omega) e113969
                          have CM113968 : gC sz M113968 := gC.set CM113964 (rs_G (k := a + 4404) (by omega)).2.1 e113969
                          refine g_aload_n (n := 397) X 0 dX12_inside_396 rfl rfl rfl ?_
                          refine g_iload_n (n := 398) X 2 dX12_inside_397 rfl rfl rfl ?_
                          refine g_bipush (n := 400) X dX12_inside_398 (by decide +kernel) rfl ?_
                          refine g_callVv (n := 403) (As := [gJ v111336, gJ 8]) (rest := []) (cs1 := 0) (ss1 := 0) X (s_X12_leaves v111336 (by omega) 8 (by omega) hsz IM113968 CM113968 ) okX12_leaves kw_7_162 ⟨kw_7_164, kw_0_81⟩ ⟨rfl, rfl⟩ ⟨Nat.le_of_ble_eq_true rfl, Nat.le_of_ble_eq_true rfl⟩ rfl (by decide) (gsz hsz (by decide)) lay_190 rfl rfl (Nat.le_of_ble_eq_true rfl) ⟨Nat.le_of_ble_eq_true rfl, Nat.le_of_ble_eq_true rfl⟩ rfl rfl dX12_inside_400 rfl (fun M113971 P113972 => ?_)
                          obtain ⟨IM113971, CM113971, FM113971⟩ := P113972
                          refine g_iinc (n := 406) (w := v111336 + 1) (L' := [(3, gJ (v111336 + 1)), (0, gA n0 190), (1, gJ a)]) X 2 dX12_inside_403 rfl rfl (by decide) rfl rfl ?_
                          refine g_goto (tgt := 295) X dX12_inside_406 (by decide) ?_
                          refine G.sub (L' := [(0, gA n0 190), (1, gJ a), (3, gJ (v111336 + 1))]) [1, 2, 0] rfl ?_
                          exact ih113722 (v111336 + 1) M113971 (by omega) IM113971 CM113971 (gFr.c (gFr.s (gFr.s (gFr.c gFr.rf FM111337 rfl) e113965 (rs_G (k := a + 4103) (by omega)).2.2 rfl) e113969 (rs_G (k := a + 4404) (by omega)).2.2 rfl) FM113971 rfl) (by omega)
                      · refine g_aload_n (n := 336) X 0 dX12_inside_335 rfl rfl rfl ?_
                        refine gg_12_1 (n := 339) (z := 191) X (by decide) (gsz hsz (by decide)) lay_190 kw_6_27 dX12_inside_336 rfl (rf_190_1 IM111337 (gsz hsz (by decide))) (by decide) ?_
                        refine g_sipush (n := 342) X dX12_inside_339 (by decide +kernel) rfl ?_
                        refine g_iload_n (n := 343) X 2 dX12_inside_342 rfl rfl rfl ?_
                        refine g_iadd (n := 344) (z := v111336 + 192) X dX12_inside_343 (by omega) rfl ?_
                        obtain ⟨v113973, hv113973, rv113973⟩ := gRd IM111337 (by decide) (gsz hsz (by decide)) (rs_HUNGER (k := v111336 + 192) (by omega)).1
                        refine g_iald2 (n := 345) (v := v113973) X (by decide) (gsz hsz (by decide)) lay_191 (by omega) (by omega) (by decide) dX12_inside_344 rfl hv113973 ?_
                        refine g_iconst (n := 346) X dX12_inside_345 rfl ?_
                        refine g_icmp_ne (n := 349) (tgt := 403) X dX12_inside_346 (by decide) (by omega) (by omega) rfl (fun c113974 => ?_) (fun c113974 => ?_)
                        · refine g_iinc (n := 406) (w := v111336 + 1) (L' := [(3, gJ (v111336 + 1)), (0, gA n0 190), (1, gJ a)]) X 2 dX12_inside_403 rfl rfl (by decide) rfl rfl ?_
                          refine g_goto (tgt := 295) X dX12_inside_406 (by decide) ?_
                          refine G.sub (L' := [(0, gA n0 190), (1, gJ a), (3, gJ (v111336 + 1))]) [1, 2, 0] rfl ?_
                          exact ih113722 (v111336 + 1) M111337 (by omega) IM111337 CM111337 (gFr.c gFr.rf FM111337 rfl) (by omega)
                        · refine g_aload_n (n := 350) X 0 dX12_inside_349 rfl rfl rfl ?_
                          refine gg_12_1 (n := 353) (z := 191) X (by decide) (gsz hsz (by decide)) lay_190 kw_6_27 dX12_inside_350 rfl (rf_190_1 IM111337 (gsz hsz (by decide))) (by decide) ?_
                          refine g_sipush (n := 356) X dX12_inside_353 (by decide +kernel) rfl ?_
                          refine g_iload_n (n := 357) X 1 dX12_inside_356 rfl rfl rfl ?_
                          refine g_iadd (n := 358) (z := a + 4103) X dX12_inside_357 (by omega) rfl ?_
                          refine g_dup2 (n := 359) X dX12_inside_358 rfl rfl rfl ?_
                          obtain ⟨v113975, hv113975, rv113975⟩ := gRd IM111337 (by decide) (gsz hsz (by decide)) (rs_G (k := a + 4103) (by omega)).1
                          refine g_iald2 (n := 360) (v := v113975) X (by decide) (gsz hsz (by decide)) lay_191 (by omega) (by omega) (by decide) dX12_inside_359 rfl hv113975 ?_
                          refine g_aload_n (n := 361) X 0 dX12_inside_360 rfl rfl rfl ?_
                          refine gg_12_1 (n := 364) (z := 191) X (by decide) (gsz hsz (by decide)) lay_190 kw_6_27 dX12_inside_361 rfl (rf_190_1 IM111337 (gsz hsz (by decide))) (by decide) ?_
                          refine g_sipush (n := 367) X dX12_inside_364 (by decide +kernel) rfl ?_
                          refine g_iload_n (n := 368) X 2 dX12_inside_367 rfl rfl rfl ?_
                          refine g_iadd (n := 369) (z := v111336 + 160) X dX12_inside_368 (by omega) rfl ?_
                          refine g_iald2 (n := 370) (v := v113948) X (by decide) (gsz hsz (by decide)) lay_191 (by omega) (by omega) (by decide) dX12_inside_369 rfl hv113948 ?_
                          refine g_bipush (n := 372) X dX12_inside_370 (by decide +kernel) rfl ?_
                          refine g_icmp_ne (n := 375) (tgt := 379) X dX12_inside_372 (by decide) (by omega) (by omega) rfl (fun c113976 => ?_) (fun c113976 => ?_)
                          · refine g_iconst (n := 380) X dX12_inside_379 rfl ?_
                            refine g_iadd (n := 381) (z := v113975) X dX12_inside_380 (by omega) rfl ?_
                            refine g_iast (n := 382) X (by decide) (gsz hsz (by decide)) lay_191 (by omega) (by omega) (by decide) dX12_inside_381 rfl ?_
                            refine G.nm (fun M113977 e113978 => ?_)
                            have IM113977 : gI sz M113977 := gI.set IM111337 (rs_G (k := a + 4103) (by omega)).1 (by omega) e113978
                            have CM113977 : gC sz M113977 := gC.set CM111337 (rs_G (k := a + 4103) (by omega)).2.1 e113978
                            refine g_aload_n (n := 383) X 0 dX12_inside_382 rfl rfl rfl ?_
                            refine gg_12_1 (n := 386) (z := 191) X (by decide) (gsz hsz (by decide)) lay_190 kw_6_27 dX12_inside_383 rfl (rf_190_1 IM113977 (gsz hsz (by decide))) (by decide) ?_
                            refine g_sipush (n := 389) X dX12_inside_386 (by decide +kernel) rfl ?_
                            refine g_iload_n (n := 390) X 1 dX12_inside_389 rfl rfl rfl ?_
                            refine g_iadd (n := 391) (z := a + 4404) X dX12_inside_390 (by omega) rfl ?_
                            refine g_dup2 (n := 392) X dX12_inside_391 rfl rfl rfl ?_
                            obtain ⟨v113979, hv113979, rv113979⟩ := gRd IM113977 (by decide) (gsz hsz (by decide)) (rs_G (k := a + 4404) (by omega)).1
                            refine g_iald2 (n := 393) (v := v113979) X (by decide) (gsz hsz (by decide)) lay_191 (by omega) (by omega) (by decide) dX12_inside_392 rfl hv113979 ?_
                            refine g_iconst (n := 394) X dX12_inside_393 rfl ?_
                            refine g_iaddA (n := 395) X dX12_inside_394 rfl (fun v113980 rv113980 xv113980 => ?_)
                            clear xv113980
                            refine g_iast (n := 396) X (by decide) (gsz hsz (by decide)) lay_191 (by omega) (by omega) (by decide) dX12_inside_395 rfl ?_
                            refine G.nm (fun M113981 e113982 => ?_)
                            have IM113981 : gI sz M113981 := gI.set IM113977 (rs_G (k := a + 4404) (by omega)).1 (by omega) e113982
                            have CM113981 : gC sz M113981 := gC.set CM113977 (rs_G (k := a + 4404) (by omega)).2.1 e113982
                            refine g_aload_n (n := 397) X 0 dX12_inside_396 rfl rfl rfl ?_
                            refine g_iload_n (n := 398) X 2 dX12_inside_397 rfl rfl rfl ?_
                            refine g_bipush (n := 400) X dX12_inside_398 (by decide +kernel) rfl ?_
                            refine g_callVv (n := 403) (As := [gJ v111336, gJ 8]) (rest := []) (cs1 := 0) (ss1 := 0) X (s_X12_leaves v111336 (by omega) 8 (by omega) hsz IM113981 CM113981 ) okX12_leaves kw_7_162 ⟨kw_7_164, kw_0_81⟩ ⟨rfl, rfl⟩ ⟨Nat.le_of_ble_eq_true rfl, Nat.le_of_ble_eq_true rfl⟩ rfl (by decide) (gsz hsz (by decide)) lay_190 rfl rfl (Nat.le_of_ble_eq_true rfl) ⟨Nat.le_of_ble_eq_true rfl, Nat.le_of_ble_eq_true rfl⟩ rfl rfl dX12_inside_400 rfl (fun M113984 P113985 => ?_)
                            obtain ⟨IM113984, CM113984, FM113984⟩ := P113985
                            refine g_iinc (n := 406) (w := v111336 + 1) (L' := [(3, gJ (v111336 + 1)), (0, gA n0 190), (1, gJ a)]) X 2 dX12_inside_403 rfl rfl (by decide) rfl rfl ?_
                            refine g_goto (tgt := 295) X dX12_inside_406 (by decide) ?_
                            refine G.sub (L' := [(0, gA n0 190), (1, gJ a), (3, gJ (v111336 + 1))]) [1, 2, 0] rfl ?_
                            exact ih113722 (v111336 + 1) M113984 (by omega) IM113984 CM113984 (gFr.c (gFr.s (gFr.s (gFr.c gFr.rf FM111337 rfl) e113978 (rs_G (k := a + 4103) (by omega)).2.2 rfl) e113982 (rs_G (k := a + 4404) (by omega)).2.2 rfl) FM113984 rfl) (by omega)
                          · refine g_iconst (n := 376) X dX12_inside_375 rfl ?_
                            refine g_goto (tgt := 380) X dX12_inside_376 (by decide) ?_
                            refine g_iaddA (n := 381) X dX12_inside_380 rfl (fun v113986 rv113986 xv113986 => ?_)
                            clear xv113986
                            refine g_iast (n := 382) X (by decide) (gsz hsz (by decide)) lay_191 (by omega) (by omega) (by decide) dX12_inside_381 rfl ?_
                            refine G.nm (fun M113987 e113988 => ?_)
                            have IM113987 : gI sz M113987 := gI.set IM111337 (rs_G (k := a + 4103) (by omega)).1 (by omega) e113988
                            have CM113987 : gC sz M113987 := gC.set CM111337 (rs_G (k := a + 4103) (by omega)).2.1 e113988
                            refine g_aload_n (n := 383) X 0 dX12_inside_382 rfl rfl rfl ?_
                            refine gg_12_1 (n := 386) (z := 191) X (by decide) (gsz hsz (by decide)) lay_190 kw_6_27 dX12_inside_383 rfl (rf_190_1 IM113987 (gsz hsz (by decide))) (by decide) ?_
                            refine g_sipush (n := 389) X dX12_inside_386 (by decide +kernel) rfl ?_
                            refine g_iload_n (n := 390) X 1 dX12_inside_389 rfl rfl rfl ?_
                            refine g_iadd (n := 391) (z := a + 4404) X dX12_inside_390 (by omega) rfl ?_
                            refine g_dup2 (n := 392) X dX12_inside_391 rfl rfl rfl ?_
                            obtain ⟨v113989, hv113989, rv113989⟩ := gRd IM113987 (by decide) (gsz hsz (by decide)) (rs_G (k := a + 4404) (by omega)).1
                            refine g_iald2 (n := 393) (v := v113989) X (by decide) (gsz hsz (by decide)) lay_191 (by omega) (by omega) (by decide) dX12_inside_392 rfl hv113989 ?_
                            refine g_iconst (n := 394) X dX12_inside_393 rfl ?_
                            refine g_iaddA (n := 395) X dX12_inside_394 rfl (fun v113990 rv113990 xv113990 => ?_)
                            clear xv113990
                            refine g_iast (n := 396) X (by decide) (gsz hsz (by decide)) lay_191 (by omega) (by omega) (by decide) dX12_inside_395 rfl ?_
                            refine G.nm (fun M113991 e113992 => ?_)
                            have IM113991 : gI sz M113991 := gI.set IM113987 (rs_G (k := a + 4404) (by omega)).1 (by omega) e113992
                            have CM113991 : gC sz M113991 := gC.set CM113987 (rs_G (k := a + 4404) (by omega)).2.1 e113992
                            refine g_aload_n (n := 397) X 0 dX12_inside_396 rfl rfl rfl ?_
                            refine g_iload_n (n := 398) X 2 dX12_inside_397 rfl rfl rfl ?_
                            refine g_bipush (n := 400) X dX12_inside_398 (by decide +kernel) rfl ?_
                            refine g_callVv (n := 403) (As := [gJ v111336, gJ 8]) (rest := []) (cs1 := 0) (ss1 := 0) X (s_X12_leaves v111336 (by omega) 8 (by omega) hsz IM113991 CM113991 ) okX12_leaves kw_7_162 ⟨kw_7_164, kw_0_81⟩ ⟨rfl, rfl⟩ ⟨Nat.le_of_ble_eq_true rfl, Nat.le_of_ble_eq_true rfl⟩ rfl (by decide) (gsz hsz (by decide)) lay_190 rfl rfl (Nat.le_of_ble_eq_true rfl) ⟨Nat.le_of_ble_eq_true rfl, Nat.le_of_ble_eq_true rfl⟩ rfl rfl dX12_inside_400 rfl (fun M113994 P113995 => ?_)
                            obtain ⟨IM113994, CM113994, FM113994⟩ := P113995
                            refine g_iinc (n := 406) (w := v111336 + 1) (L' := [(3, gJ (v111336 + 1)), (0, gA n0 190), (1, gJ a)]) X 2 dX12_inside_403 rfl rfl (by decide) rfl rfl ?_
                            refine g_goto (tgt := 295) X dX12_inside_406 (by decide) ?_
                            refine G.sub (L' := [(0, gA n0 190), (1, gJ a), (3, gJ (v111336 + 1))]) [1, 2, 0] rfl ?_
                            exact ih113722 (v111336 + 1) M113994 (by omega) IM113994 CM113994 (gFr.c (gFr.s (gFr.s (gFr.c gFr.rf FM111337 rfl) e113988 (rs_G (k := a + 4103) (by omega)).2.2 rfl) e113992 (rs_G (k := a + 4404) (by omega)).2.2 rfl) FM113994 rfl) (by omega)
              refine G.sub (L' := [(0, gA n0 190), (1, gJ a), (3, gJ 0)]) [1, 2, 0] rfl ?_
              exact j111338 _ 0 M94439 (by omega) IM94439 CM94439 gFr.rf (Nat.lt_succ_self _)
            · refine g_aload_n (n := 156) X 0 dX12_inside_155 rfl rfl rfl ?_
              refine gg_12_1 (n := 159) (z := 191) X (by decide) (gsz hsz (by decide)) lay_190 kw_6_27 dX12_inside_156 rfl (rf_190_1 IM94439 (gsz hsz (by decide))) (by decide) ?_
              refine g_sipush (n := 162) X dX12_inside_159 (by decide +kernel) rfl ?_
              refine g_iload_n (n := 163) X 2 dX12_inside_162 rfl rfl rfl ?_
              refine g_iadd (n := 164) (z := v94438 + 160) X dX12_inside_163 (by omega) rfl ?_
              obtain ⟨v113996, hv113996, rv113996⟩ := gRd IM94439 (by decide) (gsz hsz (by decide)) (rs_AT (k := v94438 + 160) (by omega)).1
              refine g_iald2 (n := 165) (v := v113996) X (by decide) (gsz hsz (by decide)) lay_191 (by omega) (by omega) (by decide) dX12_inside_164 rfl hv113996 ?_
              refine g_bipush (n := 167) X dX12_inside_165 (by decide +kernel) rfl ?_
              refine g_icmp_ne (n := 170) (tgt := 287) X dX12_inside_167 (by decide) (by omega) (by omega) rfl (fun c113997 => ?_) (fun c113997 => ?_)
              · refine g_iinc (n := 290) (w := v94438 + 1) (L' := [(3, gJ (v94438 + 1)), (0, gA n0 190), (1, gJ a)]) X 2 dX12_inside_287 rfl rfl (by decide) rfl rfl ?_
                refine g_goto (tgt := 145) X dX12_inside_290 (by decide) ?_
                refine G.sub (L' := [(0, gA n0 190), (1, gJ a), (3, gJ (v94438 + 1))]) [1, 2, 0] rfl ?_
                exact ih111288 (v94438 + 1) M94439 (by omega) IM94439 CM94439 (gFr.c gFr.rf FM94439 rfl) (by omega)
              · refine g_aload_n (n := 171) X 0 dX12_inside_170 rfl rfl rfl ?_
                refine gg_12_1 (n := 174) (z := 191) X (by decide) (gsz hsz (by decide)) lay_190 kw_6_27 dX12_inside_171 rfl (rf_190_1 IM94439 (gsz hsz (by decide))) (by decide) ?_
                refine g_sipush (n := 177) X dX12_inside_174 (by decide +kernel) rfl ?_
                refine g_iload_n (n := 178) X 2 dX12_inside_177 rfl rfl rfl ?_
                refine g_iadd (n := 179) (z := v94438 + 208) X dX12_inside_178 (by omega) rfl ?_
                obtain ⟨v113998, hv113998, rv113998⟩ := gRd IM94439 (by decide) (gsz hsz (by decide)) (rs_WARD (k := v94438 + 208) (by omega)).1
                refine g_iald2 (n := 180) (v := v113998) X (by decide) (gsz hsz (by decide)) lay_191 (by omega) (by omega) (by decide) dX12_inside_179 rfl hv113998 ?_
                refine g_istore (n := 182) (L' := [(4, gJ v113998), (0, gA n0 190), (1, gJ a), (3, gJ v94438)]) X dX12_inside_180 (by decide) rfl rfl ?_
                refine g_iconst (n := 183) X dX12_inside_182 rfl ?_
                refine g_aload_n (n := 184) X 1 dX12_inside_183 rfl rfl rfl ?_
                refine g_iload (n := 186) X 0 dX12_inside_184 rfl rfl ?_
                refine g_callVi (n := 189) (As := [gJ v113998]) (rest := [gJ 2]) (cs1 := 0) (ss1 := 0) X (s_X12_takenIn v113998 (by omega) hsz IM94439 CM94439 ) okX12_takenIn kw_7_154 ⟨kw_7_156, kw_0_79⟩ ⟨rfl, rfl⟩ ⟨Nat.le_of_ble_eq_true rfl, Nat.le_of_ble_eq_true rfl⟩ rfl (by decide) (gsz hsz (by decide)) lay_190 rfl rfl (Nat.le_of_ble_eq_true rfl) ⟨Nat.le_of_ble_eq_true rfl, Nat.le_of_ble_eq_true rfl⟩ rfl rfl dX12_inside_186 rfl (fun v113999 M114000 P114001 => ?_)
                obtain ⟨rfl, rv113999⟩ := P114001
                refine g_imulA (n := 190) X dX12_inside_189 rfl (fun v114002 rv114002 xv114002 => ?_)
                clear xv114002
                refine g_aload_n (n := 191) X 1 dX12_inside_190 rfl rfl rfl ?_
                refine gg_12_1 (n := 194) (z := 191) X (by decide) (gsz hsz (by decide)) lay_190 kw_6_27 dX12_inside_191 rfl (rf_190_1 IM94439 (gsz hsz (by decide))) (by decide) ?_
                refine g_bipush (n := 196) X dX12_inside_194 (by decide +kernel) rfl ?_
                refine g_iload (n := 198) X 0 dX12_inside_196 rfl rfl ?_
                refine g_iadd (n := 199) (z := v113998 + 60) X dX12_inside_198 (by omega) rfl ?_
                obtain ⟨v114003, hv114003, rv114003⟩ := rsp_0_24700 (k := v113998 + 60) IM94439 (gsz hsz (by decide)) (by omega)
                refine g_iald2 (n := 200) (v := v114003) X (by decide) (gsz hsz (by decide)) lay_191 (by omega) (by omega) (by decide) dX12_inside_199 rfl hv114003 ?_
                refine g_icmp_le (n := 203) (tgt := 230) X dX12_inside_200 (by decide) (by omega) (by omega) rfl (fun c114004 => ?_) (fun c114004 => ?_)
                · refine g_iconst (n := 231) X dX12_inside_230 rfl ?_
                  refine g_istore (n := 233) (L' := [(5, gJ 0), (4, gJ v113998), (0, gA n0 190), (1, gJ a), (3, gJ v94438)]) X dX12_inside_231 (by decide) rfl rfl ?_
                  refine g_aload_n (n := 234) X 2 dX12_inside_233 rfl rfl rfl ?_
                  refine gg_12_1 (n := 237) (z := 191) X (by decide) (gsz hsz (by decide)) lay_190 kw_6_27 dX12_inside_234 rfl (rf_190_1 IM94439 (gsz hsz (by decide))) (by decide) ?_
                  refine g_sipush (n := 240) X dX12_inside_237 (by decide +kernel) rfl ?_
                  refine g_iload_n (n := 241) X 4 dX12_inside_240 rfl rfl rfl ?_
                  refine g_iadd (n := 242) (z := v94438 + 192) X dX12_inside_241 (by omega) rfl ?_
                  obtain ⟨v114005, hv114005, rv114005⟩ := gRd IM94439 (by decide) (gsz hsz (by decide)) (rs_HUNGER (k := v94438 + 192) (by omega)).1
                  refine g_iald2 (n := 243) (v := v114005) X (by decide) (gsz hsz (by decide)) lay_191 (by omega) (by omega) (by decide) dX12_inside_242 rfl hv114005 ?_
                  refine g_iload (n := 245) X 0 dX12_inside_243 rfl rfl ?_
                  refine g_if_eq (n := 248) (tgt := 252) X dX12_inside_245 (by decide) (by omega) rfl (fun c114006 => ?_) (fun c114006 => by exfalso; omega)
                  refine g_iconst (n := 253) X dX12_inside_252 rfl ?_
                  refine g_iaddA (n := 254) X dX12_inside_253 rfl (fun v114007 rv114007 xv114007 => ?_)
                  clear xv114007
                  refine g_istore (n := 256) (L' := [(6, gJ v114007), (5, gJ 0), (4, gJ v113998), (0, gA n0 190), (1, gJ a), (3, gJ v94438)]) X dX12_inside_254 (by decide) rfl rfl ?_
                  refine g_aload_n (n := 257) X 3 dX12_inside_256 rfl rfl rfl ?_
                  refine gg_12_1 (n := 260) (z := 191) X (by decide) (gsz hsz (by decide)) lay_190 kw_6_27 dX12_inside_257 rfl (rf_190_1 IM94439 (gsz hsz (by decide))) (by decide) ?_
                  refine g_sipush (n := 263) X dX12_inside_260 (by decide +kernel) rfl ?_
                  refine g_iload_n (n := 264) X 5 dX12_inside_263 rfl rfl rfl ?_
                  refine g_iadd (n := 265) (z := v94438 + 192) X dX12_inside_264 (by omega) rfl ?_
                  refine g_iload (n := 267) X 0 dX12_inside_265 rfl rfl ?_
                  refine g_if_ge (n := 270) (tgt := 274) X dX12_inside_267 (by decide) (by omega) rfl (fun c114008 => ?_) (fun c114008 => ?_)
                  · refine g_iload (n := 276) X 0 dX12_inside_274 rfl rfl ?_
                    refine g_iconst (n := 277) X dX12_inside_276 rfl ?_
                    refine g_icmp_le (n := 280) (tgt := 284) X dX12_inside_277 (by decide) (by omega) (by omega) rfl (fun c114009 => ?_) (fun c114009 => ?_)
                    · refine g_iload (n := 286) X 0 dX12_inside_284 rfl rfl ?_
                      refine g_iast (n := 287) X (by decide) (gsz hsz (by decide)) lay_191 (by omega) (by omega) (by decide) dX12_inside_286 rfl ?_
                      refine G.nm (fun M114010 e114011 => ?_)
                      have IM114010 : gI sz M114010 := gI.set IM94439 (rs_HUNGER (k := v94438 + 192) (by omega)).1 (by omega) e114011
                      have CM114010 : gC sz M114010 := gC.set CM94439 (rs_HUNGER (k := v94438 + 192) (by omega)).2.1 e114011
                      refine g_iinc (n := 290) (w := v94438 + 1) (L' := [(3, gJ (v94438 + 1)), (6, gJ v114007), (5, gJ 0), (4, gJ v113998), (0, gA n0 190), (1, gJ a)]) X 5 dX12_inside_287 rfl rfl (by decide) rfl rfl ?_
                      refine g_goto (tgt := 145) X dX12_inside_290 (by decide) ?_
                      refine G.sub (L' := [(0, gA n0 190), (1, gJ a), (3, gJ (v94438 + 1))]) [4, 5, 0] rfl ?_
                      exact ih111288 (v94438 + 1) M114010 (by omega) IM114010 CM114010 (gFr.s (gFr.c gFr.rf FM94439 rfl) e114011 (rs_HUNGER (k := v94438 + 192) (by omega)).2.2 rfl) (by omega)
                    · refine g_iconst (n := 281) X dX12_inside_280 rfl ?_
                      refine g_goto (tgt := 286) X dX12_inside_281 (by decide) ?_
                      refine g_iast (n := 287) X (by decide) (gsz hsz (by decide)) lay_191 (by omega) (by omega) (by decide) dX12_inside_286 rfl ?_
                      refine G.nm (fun M114012 e114013 => ?_)
                      have IM114012 : gI sz M114012 := gI.set IM94439 (rs_HUNGER (k := v94438 + 192) (by omega)).1 (by omega) e114013
                      have CM114012 : gC sz M114012 := gC.set CM94439 (rs_HUNGER (k := v94438 + 192) (by omega)).2.1 e114013
                      refine g_iinc (n := 290) (w := v94438 + 1) (L' := [(3, gJ (v94438 + 1)), (6, gJ v114007), (5, gJ 0), (4, gJ v113998), (0, gA n0 190), (1, gJ a)]) X 5 dX12_inside_287 rfl rfl (by decide) rfl rfl ?_
                      refine g_goto (tgt := 145) X dX12_inside_290 (by decide) ?_
                      refine G.sub (L' := [(0, gA n0 190), (1, gJ a), (3, gJ (v94438 + 1))]) [4, 5, 0] rfl ?_
                      exact ih111288 (v94438 + 1) M114012 (by omega) IM114012 CM114012 (gFr.s (gFr.c gFr.rf FM94439 rfl) e114013 (rs_HUNGER (k := v94438 + 192) (by omega)).2.2 rfl) (by omega)
                  · refine g_iconst (n := 271) X dX12_inside_270 rfl ?_
                    refine g_goto (tgt := 286) X dX12_inside_271 (by decide) ?_
                    refine g_iast (n := 287) X (by decide) (gsz hsz (by decide)) lay_191 (by omega) (by omega) (by decide) dX12_inside_286 rfl ?_
                    refine G.nm (fun M114014 e114015 => ?_)
                    have IM114014 : gI sz M114014 := gI.set IM94439 (rs_HUNGER (k := v94438 + 192) (by omega)).1 (by omega) e114015
                    have CM114014 : gC sz M114014 := gC.set CM94439 (rs_HUNGER (k := v94438 + 192) (by omega)).2.1 e114015
                    refine g_iinc (n := 290) (w := v94438 + 1) (L' := [(3, gJ (v94438 + 1)), (6, gJ v114007), (5, gJ 0), (4, gJ v113998), (0, gA n0 190), (1, gJ a)]) X 5 dX12_inside_287 rfl rfl (by decide) rfl rfl ?_
                    refine g_goto (tgt := 145) X dX12_inside_290 (by decide) ?_
                    refine G.sub (L' := [(0, gA n0 190), (1, gJ a), (3, gJ (v94438 + 1))]) [4, 5, 0] rfl ?_
                    exact ih111288 (v94438 + 1) M114014 (by omega) IM114014 CM114014 (gFr.s (gFr.c gFr.rf FM94439 rfl) e114015 (rs_HUNGER (k := v94438 + 192) (by omega)).2.2 rfl) (by omega)
                · refine g_aload_n (n := 204) X 1 dX12_inside_203 rfl rfl rfl ?_
                  refine gg_12_1 (n := 207) (z := 191) X (by decide) (gsz hsz (by decide)) lay_190 kw_6_27 dX12_inside_204 rfl (rf_190_1 IM94439 (gsz hsz (by decide))) (by decide) ?_
                  refine g_sipush (n := 210) X dX12_inside_207 (by decide +kernel) rfl ?_
                  refine g_iload_n (n := 211) X 3 dX12_inside_210 rfl rfl rfl ?_
                  refine g_iadd (n := 212) (z := v94438 + 144) X dX12_inside_211 (by omega) rfl ?_
                  obtain ⟨v114016, hv114016, rv114016⟩ := gRd IM94439 (by decide) (gsz hsz (by decide)) (rs_STRONG (k := v94438 + 144) (by omega)).1
                  refine g_iald2 (n := 213) (v := v114016) X (by decide) (gsz hsz (by decide)) lay_191 (by omega) (by omega) (by decide) dX12_inside_212 rfl hv114016 ?_
                  refine g_aload_n (n := 214) X 1 dX12_inside_213 rfl rfl rfl ?_
                  refine gg_12_1 (n := 217) (z := 191) X (by decide) (gsz hsz (by decide)) lay_190 kw_6_27 dX12_inside_214 rfl (rf_190_1 IM94439 (gsz hsz (by decide))) (by decide) ?_
                  refine g_sipush (n := 220) X dX12_inside_217 (by decide +kernel) rfl ?_
                  refine g_iload_n (n := 221) X 2 dX12_inside_220 rfl rfl rfl ?_
                  refine g_iadd (n := 222) (z := a + 2800) X dX12_inside_221 (by omega) rfl ?_
                  obtain ⟨v114017, hv114017, rv114017⟩ := gRd IM94439 (by decide) (gsz hsz (by decide)) (rs_FROST (k := a + 2800) (by omega)).1
                  refine g_iald2 (n := 223) (v := v114017) X (by decide) (gsz hsz (by decide)) lay_191 (by omega) (by omega) (by decide) dX12_inside_222 rfl hv114017 ?_
                  refine g_icmp_ge (n := 226) (tgt := 230) X dX12_inside_223 (by decide) (by omega) (by omega) rfl (fun c114018 => ?_) (fun c114018 => ?_)
                  · refine g_iconst (n := 231) X dX12_inside_230 rfl ?_
                    refine g_istore (n := 233) (L' := [(5, gJ 0), (4, gJ v113998), (0, gA n0 190), (1, gJ a), (3, gJ v94438)]) X dX12_inside_231 (by decide) rfl rfl ?_
                    refine g_aload_n (n := 234) X 2 dX12_inside_233 rfl rfl rfl ?_
                    refine gg_12_1 (n := 237) (z := 191) X (by decide) (gsz hsz (by decide)) lay_190 kw_6_27 dX12_inside_234 rfl (rf_190_1 IM94439 (gsz hsz (by decide))) (by decide) ?_
                    refine g_sipush (n := 240) X dX12_inside_237 (by decide +kernel) rfl ?_
                    refine g_iload_n (n := 241) X 4 dX12_inside_240 rfl rfl rfl ?_
                    refine g_iadd (n := 242) (z := v94438 + 192) X dX12_inside_241 (by omega) rfl ?_
                    obtain ⟨v114019, hv114019, rv114019⟩ := gRd IM94439 (by decide) (gsz hsz (by decide)) (rs_HUNGER (k := v94438 + 192) (by omega)).1
                    refine g_iald2 (n := 243) (v := v114019) X (by decide) (gsz hsz (by decide)) lay_191 (by omega) (by omega) (by decide) dX12_inside_242 rfl hv114019 ?_
                    refine g_iload (n := 245) X 0 dX12_inside_243 rfl rfl ?_
                    refine g_if_eq (n := 248) (tgt := 252) X dX12_inside_245 (by decide) (by omega) rfl (fun c114020 => ?_) (fun c114020 => by exfalso; omega)
                    refine g_iconst (n := 253) X dX12_inside_252 rfl ?_
                    refine g_iaddA (n := 254) X dX12_inside_253 rfl (fun v114021 rv114021 xv114021 => ?_)
                    clear xv114021
                    refine g_istore (n := 256) (L' := [(6, gJ v114021), (5, gJ 0), (4, gJ v113998), (0, gA n0 190), (1, gJ a), (3, gJ v94438)]) X dX12_inside_254 (by decide) rfl rfl ?_
                    refine g_aload_n (n := 257) X 3 dX12_inside_256 rfl rfl rfl ?_
                    refine gg_12_1 (n := 260) (z := 191) X (by decide) (gsz hsz (by decide)) lay_190 kw_6_27 dX12_inside_257 rfl (rf_190_1 IM94439 (gsz hsz (by decide))) (by decide) ?_
                    refine g_sipush (n := 263) X dX12_inside_260 (by decide +kernel) rfl ?_
                    refine g_iload_n (n := 264) X 5 dX12_inside_263 rfl rfl rfl ?_
                    refine g_iadd (n := 265) (z := v94438 + 192) X dX12_inside_264 (by omega) rfl ?_
                    refine g_iload (n := 267) X 0 dX12_inside_265 rfl rfl ?_
                    refine g_if_ge (n := 270) (tgt := 274) X dX12_inside_267 (by decide) (by omega) rfl (fun c114022 => ?_) (fun c114022 => ?_)
                    · refine g_iload (n := 276) X 0 dX12_inside_274 rfl rfl ?_
                      refine g_iconst (n := 277) X dX12_inside_276 rfl ?_
                      refine g_icmp_le (n := 280) (tgt := 284) X dX12_inside_277 (by decide) (by omega) (by omega) rfl (fun c114023 => ?_) (fun c114023 => ?_)
                      · refine g_iload (n := 286) X 0 dX12_inside_284 rfl rfl ?_
                        refine g_iast (n := 287) X (by decide) (gsz hsz (by decide)) lay_191 (by omega) (by omega) (by decide) dX12_inside_286 rfl ?_
                        refine G.nm (fun M114024 e114025 => ?_)
                        have IM114024 : gI sz M114024 := gI.set IM94439 (rs_HUNGER (k := v94438 + 192) (by omega)).1 (by omega) e114025
                        have CM114024 : gC sz M114024 := gC.set CM94439 (rs_HUNGER (k := v94438 + 192) (by omega)).2.1 e114025
                        refine g_iinc (n := 290) (w := v94438 + 1) (L' := [(3, gJ (v94438 + 1)), (6, gJ v114021), (5, gJ 0), (4, gJ v113998), (0, gA n0 190), (1, gJ a)]) X 5 dX12_inside_287 rfl rfl (by decide) rfl rfl ?_
                        refine g_goto (tgt := 145) X dX12_inside_290 (by decide) ?_
                        refine G.sub (L' := [(0, gA n0 190), (1, gJ a), (3, gJ (v94438 + 1))]) [4, 5, 0] rfl ?_
                        exact ih111288 (v94438 + 1) M114024 (by omega) IM114024 CM114024 (gFr.s (gFr.c gFr.rf FM94439 rfl) e114025 (rs_HUNGER (k := v94438 + 192) (by omega)).2.2 rfl) (by omega)
                      · refine g_iconst (n := 281) X dX12_inside_280 rfl ?_
                        refine g_goto (tgt := 286) X dX12_inside_281 (by decide) ?_
                        refine g_iast (n := 287) X (by decide) (gsz hsz (by decide)) lay_191 (by omega) (by omega) (by decide) dX12_inside_286 rfl ?_
                        refine G.nm (fun M114026 e114027 => ?_)
                        have IM114026 : gI sz M114026 := gI.set IM94439 (rs_HUNGER (k := v94438 + 192) (by omega)).1 (by omega) e114027
                        have CM114026 : gC sz M114026 := gC.set CM94439 (rs_HUNGER (k := v94438 + 192) (by omega)).2.1 e114027
                        refine g_iinc (n := 290) (w := v94438 + 1) (L' := [(3, gJ (v94438 + 1)), (6, gJ v114021), (5, gJ 0), (4, gJ v113998), (0, gA n0 190), (1, gJ a)]) X 5 dX12_inside_287 rfl rfl (by decide) rfl rfl ?_
                        refine g_goto (tgt := 145) X dX12_inside_290 (by decide) ?_
                        refine G.sub (L' := [(0, gA n0 190), (1, gJ a), (3, gJ (v94438 + 1))]) [4, 5, 0] rfl ?_
                        exact ih111288 (v94438 + 1) M114026 (by omega) IM114026 CM114026 (gFr.s (gFr.c gFr.rf FM94439 rfl) e114027 (rs_HUNGER (k := v94438 + 192) (by omega)).2.2 rfl) (by omega)
                    · refine g_iconst (n := 271) X dX12_inside_270 rfl ?_
                      refine g_goto (tgt := 286) X dX12_inside_271 (by decide) ?_
                      refine g_iast (n := 287) X (by decide) (gsz hsz (by decide)) lay_191 (by omega) (by omega) (by decide) dX12_inside_286 rfl ?_
                      refine G.nm (fun M114028 e114029 => ?_)
                      have IM114028 : gI sz M114028 := gI.set IM94439 (rs_HUNGER (k := v94438 + 192) (by omega)).1 (by omega) e114029
                      have CM114028 : gC sz M114028 := gC.set CM94439 (rs_HUNGER (k := v94438 + 192) (by omega)).2.1 e114029
                      refine g_iinc (n := 290) (w := v94438 + 1) (L' := [(3, gJ (v94438 + 1)), (6, gJ v114021), (5, gJ 0), (4, gJ v113998), (0, gA n0 190), (1, gJ a)]) X 5 dX12_inside_287 rfl rfl (by decide) rfl rfl ?_
                      refine g_goto (tgt := 145) X dX12_inside_290 (by decide) ?_
                      refine G.sub (L' := [(0, gA n0 190), (1, gJ a), (3, gJ (v94438 + 1))]) [4, 5, 0] rfl ?_
                      exact ih111288 (v94438 + 1) M114028 (by omega) IM114028 CM114028 (gFr.s (gFr.c gFr.rf FM94439 rfl) e114029 (rs_HUNGER (k := v94438 + 192) (by omega)).2.2 rfl) (by omega)
                  · refine g_iconst (n := 227) X dX12_inside_226 rfl ?_
                    refine g_goto (tgt := 231) X dX12_inside_227 (by decide) ?_
                    refine g_istore (n := 233) (L' := [(5, gJ 1), (4, gJ v113998), (0, gA n0 190), (1, gJ a), (3, gJ v94438)]) X dX12_inside_231 (by decide) rfl rfl ?_
                    refine g_aload_n (n := 234) X 2 dX12_inside_233 rfl rfl rfl ?_
                    refine gg_12_1 (n := 237) (z := 191) X (by decide) (gsz hsz (by decide)) lay_190 kw_6_27 dX12_inside_234 rfl (rf_190_1 IM94439 (gsz hsz (by decide))) (by decide) ?_
                    refine g_sipush (n := 240) X dX12_inside_237 (by decide +kernel) rfl ?_
                    refine g_iload_n (n := 241) X 4 dX12_inside_240 rfl rfl rfl ?_
                    refine g_iadd (n := 242) (z := v94438 + 192) X dX12_inside_241 (by omega) rfl ?_
                    obtain ⟨v114030, hv114030, rv114030⟩ := gRd IM94439 (by decide) (gsz hsz (by decide)) (rs_HUNGER (k := v94438 + 192) (by omega)).1
                    refine g_iald2 (n := 243) (v := v114030) X (by decide) (gsz hsz (by decide)) lay_191 (by omega) (by omega) (by decide) dX12_inside_242 rfl hv114030 ?_
                    refine g_iload (n := 245) X 0 dX12_inside_243 rfl rfl ?_
                    refine g_if_eq (n := 248) (tgt := 252) X dX12_inside_245 (by decide) (by omega) rfl (fun c114031 => by exfalso; omega) (fun c114031 => ?_)
                    refine g_iconst (n := 249) X dX12_inside_248 rfl ?_
                    refine g_goto (tgt := 253) X dX12_inside_249 (by decide) ?_
                    refine g_iaddA (n := 254) X dX12_inside_253 rfl (fun v114032 rv114032 xv114032 => ?_)
                    clear xv114032
                    refine g_istore (n := 256) (L' := [(6, gJ v114032), (5, gJ 1), (4, gJ v113998), (0, gA n0 190), (1, gJ a), (3, gJ v94438)]) X dX12_inside_254 (by decide) rfl rfl ?_
                    refine g_aload_n (n := 257) X 3 dX12_inside_256 rfl rfl rfl ?_
                    refine gg_12_1 (n := 260) (z := 191) X (by decide) (gsz hsz (by decide)) lay_190 kw_6_27 dX12_inside_257 rfl (rf_190_1 IM94439 (gsz hsz (by decide))) (by decide) ?_
                    refine g_sipush (n := 263) X dX12_inside_260 (by decide +kernel) rfl ?_
                    refine g_iload_n (n := 264) X 5 dX12_inside_263 rfl rfl rfl ?_
                    refine g_iadd (n := 265) (z := v94438 + 192) X dX12_inside_264 (by omega) rfl ?_
                    refine g_iload (n := 267) X 0 dX12_inside_265 rfl rfl ?_
                    refine g_if_ge (n := 270) (tgt := 274) X dX12_inside_267 (by decide) (by omega) rfl (fun c114033 => ?_) (fun c114033 => ?_)
                    · refine g_iload (n := 276) X 0 dX12_inside_274 rfl rfl ?_
                      refine g_iconst (n := 277) X dX12_inside_276 rfl ?_
                      refine g_icmp_le (n := 280) (tgt := 284) X dX12_inside_277 (by decide) (by omega) (by omega) rfl (fun c114034 => ?_) (fun c114034 => ?_)
                      · refine g_iload (n := 286) X 0 dX12_inside_284 rfl rfl ?_
                        refine g_iast (n := 287) X (by decide) (gsz hsz (by decide)) lay_191 (by omega) (by omega) (by decide) dX12_inside_286 rfl ?_
                        refine G.nm (fun M114035 e114036 => ?_)
                        have IM114035 : gI sz M114035 := gI.set IM94439 (rs_HUNGER (k := v94438 + 192) (by omega)).1 (by omega) e114036
                        have CM114035 : gC sz M114035 := gC.set CM94439 (rs_HUNGER (k := v94438 + 192) (by omega)).2.1 e114036
                        refine g_iinc (n := 290) (w := v94438 + 1) (L' := [(3, gJ (v94438 + 1)), (6, gJ v114032), (5, gJ 1), (4, gJ v113998), (0, gA n0 190), (1, gJ a)]) X 5 dX12_inside_287 rfl rfl (by decide) rfl rfl ?_
                        refine g_goto (tgt := 145) X dX12_inside_290 (by decide) ?_
                        refine G.sub (L' := [(0, gA n0 190), (1, gJ a), (3, gJ (v94438 + 1))]) [4, 5, 0] rfl ?_
                        exact ih111288 (v94438 + 1) M114035 (by omega) IM114035 CM114035 (gFr.s (gFr.c gFr.rf FM94439 rfl) e114036 (rs_HUNGER (k := v94438 + 192) (by omega)).2.2 rfl) (by omega)
                      · refine g_iconst (n := 281) X dX12_inside_280 rfl ?_
                        refine g_goto (tgt := 286) X dX12_inside_281 (by decide) ?_
                        refine g_iast (n := 287) X (by decide) (gsz hsz (by decide)) lay_191 (by omega) (by omega) (by decide) dX12_inside_286 rfl ?_
                        refine G.nm (fun M114037 e114038 => ?_)
                        have IM114037 : gI sz M114037 := gI.set IM94439 (rs_HUNGER (k := v94438 + 192) (by omega)).1 (by omega) e114038
                        have CM114037 : gC sz M114037 := gC.set CM94439 (rs_HUNGER (k := v94438 + 192) (by omega)).2.1 e114038
                        refine g_iinc (n := 290) (w := v94438 + 1) (L' := [(3, gJ (v94438 + 1)), (6, gJ v114032), (5, gJ 1), (4, gJ v113998), (0, gA n0 190), (1, gJ a)]) X 5 dX12_inside_287 rfl rfl (by decide) rfl rfl ?_
                        refine g_goto (tgt := 145) X dX12_inside_290 (by decide) ?_
                        refine G.sub (L' := [(0, gA n0 190), (1, gJ a), (3, gJ (v94438 + 1))]) [4, 5, 0] rfl ?_
                        exact ih111288 (v94438 + 1) M114037 (by omega) IM114037 CM114037 (gFr.s (gFr.c gFr.rf FM94439 rfl) e114038 (rs_HUNGER (k := v94438 + 192) (by omega)).2.2 rfl) (by omega)
                    · refine g_iconst (n := 271) X dX12_inside_270 rfl ?_
                      refine g_goto (tgt := 286) X dX12_inside_271 (by decide) ?_
                      refine g_iast (n := 287) X (by decide) (gsz hsz (by decide)) lay_191 (by omega) (by omega) (by decide) dX12_inside_286 rfl ?_
                      refine G.nm (fun M114039 e114040 => ?_)
                      have IM114039 : gI sz M114039 := gI.set IM94439 (rs_HUNGER (k := v94438 + 192) (by omega)).1 (by omega) e114040
                      have CM114039 : gC sz M114039 := gC.set CM94439 (rs_HUNGER (k := v94438 + 192) (by omega)).2.1 e114040
                      refine g_iinc (n := 290) (w := v94438 + 1) (L' := [(3, gJ (v94438 + 1)), (6, gJ v114032), (5, gJ 1), (4, gJ v113998), (0, gA n0 190), (1, gJ a)]) X 5 dX12_inside_287 rfl rfl (by decide) rfl rfl ?_
                      refine g_goto (tgt := 145) X dX12_inside_290 (by decide) ?_
                      refine G.sub (L' := [(0, gA n0 190), (1, gJ a), (3, gJ (v94438 + 1))]) [4, 5, 0] rfl ?_
                      exact ih111288 (v94438 + 1) M114039 (by omega) IM114039 CM114039 (gFr.s (gFr.c gFr.rf FM94439 rfl) e114040 (rs_HUNGER (k := v94438 + 192) (by omega)).2.2 rfl) (by omega)
        refine G.sub (L' := [(0, gA n0 190), (1, gJ a), (3, gJ 0)]) [1, 2, 0] rfl ?_
        exact j94440 _ 0 M6 (by omega) IM6 CM6 gFr.rf (Nat.lt_succ_self _)
      · refine g_aload_n (n := 20) X 0 dX12_inside_19 rfl rfl rfl ?_
        refine gg_12_1 (n := 23) (z := 191) X (by decide) (gsz hsz (by decide)) lay_190 kw_6_27 dX12_inside_20 rfl (rf_190_1 IM6 (gsz hsz (by decide))) (by decide) ?_
        refine g_sipush (n := 26) X dX12_inside_23 (by decide +kernel) rfl ?_
        refine g_iload_n (n := 27) X 3 dX12_inside_26 rfl rfl rfl ?_
        refine g_iadd (n := 28) (z := v5 + 160) X dX12_inside_27 (by omega) rfl ?_
        obtain ⟨v114041, hv114041, rv114041⟩ := gRd IM6 (by decide) (gsz hsz (by decide)) (rs_AT (k := v5 + 160) (by omega)).1
        refine g_iald2 (n := 29) (v := v114041) X (by decide) (gsz hsz (by decide)) lay_191 (by omega) (by omega) (by decide) dX12_inside_28 rfl hv114041 ?_
        refine g_bipush (n := 31) X dX12_inside_29 (by decide +kernel) rfl ?_
        refine g_icmp_ne (n := 34) (tgt := 137) X dX12_inside_31 (by decide) (by omega) (by omega) rfl (fun c114042 => ?_) (fun c114042 => ?_)
        · refine g_iinc (n := 140) (w := v5 + 1) (L' := [(3, gJ (v5 + 1)), (0, gA n0 190), (1, gJ a), (2, gJ v2)]) X 3 dX12_inside_137 rfl rfl (by decide) rfl rfl ?_
          refine g_goto (tgt := 9) X dX12_inside_140 (by decide) ?_
          refine G.sub (L' := [(0, gA n0 190), (1, gJ a), (2, gJ v2), (3, gJ (v5 + 1))]) [1, 2, 3, 0] rfl ?_
          exact ih94402 (v5 + 1) M6 (by omega) IM6 CM6 (gFr.c gFr.rf FM6 rfl) (by omega)
        · refine g_aload_n (n := 35) X 0 dX12_inside_34 rfl rfl rfl ?_
          refine gg_12_1 (n := 38) (z := 191) X (by decide) (gsz hsz (by decide)) lay_190 kw_6_27 dX12_inside_35 rfl (rf_190_1 IM6 (gsz hsz (by decide))) (by decide) ?_
          refine g_bipush (n := 40) X dX12_inside_38 (by decide +kernel) rfl ?_
          obtain ⟨v114043, hv114043, rv114043⟩ := gRd IM6 (by decide) (gsz hsz (by decide)) (rs_STORE (k := 8) (by omega)).1
          refine g_iald2 (n := 41) (v := v114043) X (by decide) (gsz hsz (by decide)) lay_191 (by omega) (by omega) (by decide) dX12_inside_40 rfl hv114043 ?_
          refine g_iload_n (n := 42) X 2 dX12_inside_41 rfl rfl rfl ?_
          have j114045 : ∀ (v114046 : Int) , (0 ≤ v114046 ∧ v114046 ≤ 1) → G p l e R_X12_inside s m args below meth cd n0 D cA 7 Q 0 0 M6 sz 50 [(0, gA n0 190), (1, gJ a), (2, gJ v2), (3, gJ v5)] [gJ v114046] := by
            intro v114046 rv114046
            refine g_istore (n := 52) (L' := [(4, gJ v114046), (0, gA n0 190), (1, gJ a), (2, gJ v2), (3, gJ v5)]) X dX12_inside_50 (by decide) rfl rfl ?_
            refine g_aload_n (n := 53) X 1 dX12_inside_52 rfl rfl rfl ?_
            refine gg_12_1 (n := 56) (z := 191) X (by decide) (gsz hsz (by decide)) lay_190 kw_6_27 dX12_inside_53 rfl (rf_190_1 IM6 (gsz hsz (by decide))) (by decide) ?_
            refine g_bipush (n := 58) X dX12_inside_56 (by decide +kernel) rfl ?_
            refine g_dup2 (n := 59) X dX12_inside_58 rfl rfl rfl ?_
            refine g_iald2 (n := 60) (v := v114043) X (by decide) (gsz hsz (by decide)) lay_191 (by omega) (by omega) (by decide) dX12_inside_59 rfl hv114043 ?_
            refine g_iload (n := 62) X 0 dX12_inside_60 rfl rfl ?_
            have j114048 : ∀ (v114049 : Int) , (-60 ≤ v114049 ∧ v114049 ≤ 9999) → G p l e R_X12_inside s m args below meth cd n0 D cA 7 Q 0 0 M6 sz 70 [(0, gA n0 190), (1, gJ a), (2, gJ v2), (3, gJ v5), (4, gJ v114046)] [gJ v114049, gJ v114043, gJ 8, gA n0 191] := by
              intro v114049 rv114049
              refine g_isubA (n := 71) X dX12_inside_70 rfl (fun v114050 rv114050 xv114050 => ?_)
              clear xv114050
              refine g_iast (n := 72) X (by decide) (gsz hsz (by decide)) lay_191 (by omega) (by omega) (by decide) dX12_inside_71 rfl ?_
              refine G.nm (fun M114051 e114052 => ?_)
              have IM114051 : gI sz M114051 := gI.set IM6 (rs_STORE (k := 8) (by omega)).1 (by omega) e114052
              have CM114051 : gC sz M114051 := gC.set CM6 (rs_STORE (k := 8) (by omega)).2.1 e114052
              refine g_aload_n (n := 73) X 0 dX12_inside_72 rfl rfl rfl ?_
              refine gg_12_1 (n := 76) (z := 191) X (by decide) (gsz hsz (by decide)) lay_190 kw_6_27 dX12_inside_73 rfl (rf_190_1 IM114051 (gsz hsz (by decide))) (by decide) ?_
              refine g_sipush (n := 79) X dX12_inside_76 (by decide +kernel) rfl ?_
              refine g_iload_n (n := 80) X 1 dX12_inside_79 rfl rfl rfl ?_
              refine g_iadd (n := 81) (z := a + 3200) X dX12_inside_80 (by omega) rfl ?_
              refine g_dup2 (n := 82) X dX12_inside_81 rfl rfl rfl ?_
              obtain ⟨v114053, hv114053, rv114053⟩ := gRd IM114051 (by decide) (gsz hsz (by decide)) (rs_G (k := a + 3200) (by omega)).1
              refine g_iald2 (n := 83) (v := v114053) X (by decide) (gsz hsz (by decide)) lay_191 (by omega) (by omega) (by decide) dX12_inside_82 rfl hv114053 ?_
              refine g_iload (n := 85) X 4 dX12_inside_83 rfl rfl ?_
              refine g_if_eq (n := 88) (tgt := 92) X dX12_inside_85 (by decide) (by omega) rfl (fun c114054 => ?_) (fun c114054 => ?_)
              · refine g_iconst (n := 93) X dX12_inside_92 rfl ?_
                refine g_iadd (n := 94) (z := v114053) X dX12_inside_93 (by omega) rfl ?_
                refine g_iast (n := 95) X (by decide) (gsz hsz (by decide)) lay_191 (by omega) (by omega) (by decide) dX12_inside_94 rfl ?_
                refine G.nm (fun M114055 e114056 => ?_)
                have IM114055 : gI sz M114055 := gI.set IM114051 (rs_G (k := a + 3200) (by omega)).1 (by omega) e114056
                have CM114055 : gC sz M114055 := gC.set CM114051 (rs_G (k := a + 3200) (by omega)).2.1 e114056
                refine g_aload_n (n := 96) X 0 dX12_inside_95 rfl rfl rfl ?_
                refine gg_12_1 (n := 99) (z := 191) X (by decide) (gsz hsz (by decide)) lay_190 kw_6_27 dX12_inside_96 rfl (rf_190_1 IM114055 (gsz hsz (by decide))) (by decide) ?_
                refine g_sipush (n := 102) X dX12_inside_99 (by decide +kernel) rfl ?_
                refine g_sipush (n := 105) X dX12_inside_102 (by decide +kernel) rfl ?_
                refine g_iload_n (n := 106) X 3 dX12_inside_105 rfl rfl rfl ?_
                refine g_imul (n := 107) (z := 301 * v5) X dX12_inside_106 rfl rfl ?_
                refine g_iadd (n := 108) (z := 10216 + (301 * v5)) X dX12_inside_107 rfl rfl ?_
                refine g_iload_n (n := 109) X 1 dX12_inside_108 rfl rfl rfl ?_
                refine g_iadd (n := 110) (z := (10216 + (301 * v5)) + a) X dX12_inside_109 rfl rfl ?_
                refine g_iload (n := 112) X 4 dX12_inside_110 rfl rfl ?_
                refine g_if_eq (n := 115) (tgt := 119) X dX12_inside_112 (by decide) (by omega) rfl (fun c114057 => ?_) (fun c114057 => by exfalso; omega)
                refine g_iconst (n := 120) X dX12_inside_119 rfl ?_
                refine g_iast (n := 121) X (by decide) (gsz hsz (by decide)) lay_191 (by omega) (by omega) (by decide) dX12_inside_120 rfl ?_
                refine G.nm (fun M114058 e114059 => ?_)
                have IM114058 : gI sz M114058 := gI.set IM114055 (rs_W (k := (10216 + (301 * v5)) + a) (by omega)).1 (by omega) e114059
                have CM114058 : gC sz M114058 := gC.set CM114055 (rs_W (k := (10216 + (301 * v5)) + a) (by omega)).2.1 e114059
                refine g_aload_n (n := 122) X 0 dX12_inside_121 rfl rfl rfl ?_
                refine g_iload_n (n := 123) X 3 dX12_inside_122 rfl rfl rfl ?_
                refine g_iload (n := 125) X 4 dX12_inside_123 rfl rfl ?_
                refine g_if_eq (n := 128) (tgt := 133) X dX12_inside_125 (by decide) (by omega) rfl (fun c114060 => ?_) (fun c114060 => by exfalso; omega)
                refine g_iconst (n := 134) X dX12_inside_133 rfl ?_
                refine g_callVv (n := 137) (As := [gJ v5, gJ 2]) (rest := []) (cs1 := 0) (ss1 := 0) X (s_X12_hungers v5 (by omega) 2 (by omega) hsz IM114058 CM114058 ) okX12_hungers kw_7_150 ⟨kw_7_152, kw_0_78⟩ ⟨rfl, rfl⟩ ⟨Nat.le_of_ble_eq_true rfl, Nat.le_of_ble_eq_true rfl⟩ rfl (by decide) (gsz hsz (by decide)) lay_190 rfl rfl (Nat.le_of_ble_eq_true rfl) ⟨Nat.le_of_ble_eq_true rfl, Nat.le_of_ble_eq_true rfl⟩ rfl rfl dX12_inside_134 rfl (fun M114062 P114063 => ?_)
                obtain ⟨IM114062, CM114062, FM114062⟩ := P114063
                refine g_iinc (n := 140) (w := v5 + 1) (L' := [(3, gJ (v5 + 1)), (0, gA n0 190), (1, gJ a), (2, gJ v2), (4, gJ v114046)]) X 3 dX12_inside_137 rfl rfl (by decide) rfl rfl ?_
                refine g_goto (tgt := 9) X dX12_inside_140 (by decide) ?_
                refine G.sub (L' := [(0, gA n0 190), (1, gJ a), (2, gJ v2), (3, gJ (v5 + 1))]) [1, 2, 3, 0] rfl ?_
                exact ih94402 (v5 + 1) M114062 (by omega) IM114062 CM114062 (gFr.c (gFr.s (gFr.s (gFr.s (gFr.c gFr.rf FM6 rfl) e114052 (rs_STORE (k := 8) (by omega)).2.2 rfl) e114056 (rs_G (k := a + 3200) (by omega)).2.2 rfl) e114059 (rs_W (k := (10216 + (301 * v5)) + a) (by omega)).2.2 rfl) FM114062 rfl) (by omega)
              · refine g_iload_n (n := 89) X 2 dX12_inside_88 rfl rfl rfl ?_
                refine g_goto (tgt := 93) X dX12_inside_89 (by decide) ?_
                refine g_iaddA (n := 94) X dX12_inside_93 rfl (fun v114064 rv114064 xv114064 => ?_)
                clear xv114064
                refine g_iast (n := 95) X (by decide) (gsz hsz (by decide)) lay_191 (by omega) (by omega) (by decide) dX12_inside_94 rfl ?_
                refine G.nm (fun M114065 e114066 => ?_)
                have IM114065 : gI sz M114065 := gI.set IM114051 (rs_G (k := a + 3200) (by omega)).1 (by omega) e114066
                have CM114065 : gC sz M114065 := gC.set CM114051 (rs_G (k := a + 3200) (by omega)).2.1 e114066
                refine g_aload_n (n := 96) X 0 dX12_inside_95 rfl rfl rfl ?_
                refine gg_12_1 (n := 99) (z := 191) X (by decide) (gsz hsz (by decide)) lay_190 kw_6_27 dX12_inside_96 rfl (rf_190_1 IM114065 (gsz hsz (by decide))) (by decide) ?_
                refine g_sipush (n := 102) X dX12_inside_99 (by decide +kernel) rfl ?_
                refine g_sipush (n := 105) X dX12_inside_102 (by decide +kernel) rfl ?_
                refine g_iload_n (n := 106) X 3 dX12_inside_105 rfl rfl rfl ?_
                refine g_imul (n := 107) (z := 301 * v5) X dX12_inside_106 rfl rfl ?_
                refine g_iadd (n := 108) (z := 10216 + (301 * v5)) X dX12_inside_107 rfl rfl ?_
                refine g_iload_n (n := 109) X 1 dX12_inside_108 rfl rfl rfl ?_
                refine g_iadd (n := 110) (z := (10216 + (301 * v5)) + a) X dX12_inside_109 rfl rfl ?_
                refine g_iload (n := 112) X 4 dX12_inside_110 rfl rfl ?_
                refine g_if_eq (n := 115) (tgt := 119) X dX12_inside_112 (by decide) (by omega) rfl (fun c114067 => by exfalso; omega) (fun c114067 => ?_)
                refine g_iload_n (n := 116) X 2 dX12_inside_115 rfl rfl rfl ?_
                refine g_goto (tgt := 120) X dX12_inside_116 (by decide) ?_
                refine g_iast (n := 121) X (by decide) (gsz hsz (by decide)) lay_191 (by omega) (by omega) (by decide) dX12_inside_120 rfl ?_
                refine G.nm (fun M114068 e114069 => ?_)
                have IM114068 : gI sz M114068 := gI.set IM114065 (rs_W (k := (10216 + (301 * v5)) + a) (by omega)).1 (by omega) e114069
                have CM114068 : gC sz M114068 := gC.set CM114065 (rs_W (k := (10216 + (301 * v5)) + a) (by omega)).2.1 e114069
                refine g_aload_n (n := 122) X 0 dX12_inside_121 rfl rfl rfl ?_
                refine g_iload_n (n := 123) X 3 dX12_inside_122 rfl rfl rfl ?_
                refine g_iload (n := 125) X 4 dX12_inside_123 rfl rfl ?_
                refine g_if_eq (n := 128) (tgt := 133) X dX12_inside_125 (by decide) (by omega) rfl (fun c114070 => by exfalso; omega) (fun c114070 => ?_)
                refine g_bipush (n := 130) X dX12_inside_128 (by decide +kernel) rfl ?_
                refine g_goto (tgt := 134) X dX12_inside_130 (by decide) ?_
                refine g_callVv (n := 137) (As := [gJ v5, gJ (-3)]) (rest := []) (cs1 := 0) (ss1 := 0) X (s_X12_hungers v5 (by omega) (-3) (by omega) hsz IM114068 CM114068 ) okX12_hungers kw_7_150 ⟨kw_7_152, kw_0_78⟩ ⟨rfl, rfl⟩ ⟨Nat.le_of_ble_eq_true rfl, Nat.le_of_ble_eq_true rfl⟩ rfl (by decide) (gsz hsz (by decide)) lay_190 rfl rfl (Nat.le_of_ble_eq_true rfl) ⟨Nat.le_of_ble_eq_true rfl, Nat.le_of_ble_eq_true rfl⟩ rfl rfl dX12_inside_134 rfl (fun M114072 P114073 => ?_)
                obtain ⟨IM114072, CM114072, FM114072⟩ := P114073
                refine g_iinc (n := 140) (w := v5 + 1) (L' := [(3, gJ (v5 + 1)), (0, gA n0 190), (1, gJ a), (2, gJ v2), (4, gJ v114046)]) X 3 dX12_inside_137 rfl rfl (by decide) rfl rfl ?_
                refine g_goto (tgt := 9) X dX12_inside_140 (by decide) ?_
                refine G.sub (L' := [(0, gA n0 190), (1, gJ a), (2, gJ v2), (3, gJ (v5 + 1))]) [1, 2, 3, 0] rfl ?_
                exact ih94402 (v5 + 1) M114072 (by omega) IM114072 CM114072 (gFr.c (gFr.s (gFr.s (gFr.s (gFr.c gFr.rf FM6 rfl) e114052 (rs_STORE (k := 8) (by omega)).2.2 rfl) e114066 (rs_G (k := a + 3200) (by omega)).2.2 rfl) e114069 (rs_W (k := (10216 + (301 * v5)) + a) (by omega)).2.2 rfl) FM114072 rfl) (by omega)
            refine g_if_eq (n := 65) (tgt := 69) X dX12_inside_62 (by decide) (by omega) rfl (fun c114047 => ?_) (fun c114047 => ?_)
            · refine g_iconst (n := 70) X dX12_inside_69 rfl ?_
              refine G.sub (L' := [(0, gA n0 190), (1, gJ a), (2, gJ v2), (3, gJ v5), (4, gJ v114046)]) [1, 2, 3, 4, 0] rfl ?_
              exact j114048 0 (by omega)
            · refine g_iload_n (n := 66) X 3 dX12_inside_65 rfl rfl rfl ?_
              refine g_goto (tgt := 70) X dX12_inside_66 (by decide) ?_
              refine G.sub (L' := [(0, gA n0 190), (1, gJ a), (2, gJ v2), (3, gJ v5), (4, gJ v114046)]) [1, 2, 3, 4, 0] rfl ?_
              exact j114048 v2 (by omega)
          refine g_icmp_lt (n := 45) (tgt := 49) X dX12_inside_42 (by decide) (by omega) (by omega) rfl (fun c114044 => ?_) (fun c114044 => ?_)
          · refine g_iconst (n := 50) X dX12_inside_49 rfl ?_
            exact j114045 0 (by omega)
          · refine g_iconst (n := 46) X dX12_inside_45 rfl ?_
            refine g_goto (tgt := 50) X dX12_inside_46 (by decide) ?_
            exact j114045 1 (by omega)
  refine G.sub (L' := [(0, gA n0 190), (1, gJ a), (2, gJ v2), (3, gJ 0)]) [2, 3, 1, 0] rfl ?_
  exact j7 _ 0 M (by omega) I C gFr.rf (Nat.lt_succ_self _)
theorem dX12_goes_0 : decode cX12_goes 0 = .ok (.aload_n 0, 1) := dc_42 (by decide +kernel)
theorem dX12_goes_1 : decode cX12_goes 1 = .ok (.getfield 7, 3) := dc_180 0 7 (by decide +kernel)
theorem dX12_goes_4 : decode cX12_goes 4 = .ok (.iconst 0, 1) := dc_3 (by decide +kernel)
theorem dX12_goes_5 : decode cX12_goes 5 = .ok (.iaload, 1) := dc_46 (by decide +kernel)
theorem dX12_goes_6 : decode cX12_goes 6 = .ok (.istore_n 1, 1) := dc_60 (by decide +kernel)
theorem dX12_goes_7 : decode cX12_goes 7 = .ok (.iconst 0, 1) := dc_3 (by decide +kernel)
theorem dX12_goes_8 : decode cX12_goes 8 = .ok (.istore_n 2, 1) := dc_61 (by decide +kernel)
theorem dX12_goes_9 : decode cX12_goes 9 = .ok (.iload_n 2, 1) := dc_28 (by decide +kernel)
theorem dX12_goes_10 : decode cX12_goes 10 = .ok (.bipush 6, 2) := dc_16 6 6 (by decide +kernel)
theorem dX12_goes_12 : decode cX12_goes 12 = .ok (.if_icmp .ge 26, 3) := dc_162 0 26 26 (by decide +kernel)
theorem dX12_goes_15 : decode cX12_goes 15 = .ok (.aload_n 0, 1) := dc_42 (by decide +kernel)
theorem dX12_goes_16 : decode cX12_goes 16 = .ok (.getfield 7, 3) := dc_180 0 7 (by decide +kernel)
theorem dX12_goes_19 : decode cX12_goes 19 = .ok (.sipush 3200, 3) := dc_17 12 128 3200 (by decide +kernel)
theorem dX12_goes_22 : decode cX12_goes 22 = .ok (.sipush 301, 3) := dc_17 1 45 301 (by decide +kernel)
theorem dX12_goes_25 : decode cX12_goes 25 = .ok (.iload_n 2, 1) := dc_28 (by decide +kernel)
theorem dX12_goes_26 : decode cX12_goes 26 = .ok (.imul, 1) := dc_104 (by decide +kernel)
theorem dX12_goes_27 : decode cX12_goes 27 = .ok (.iadd, 1) := dc_96 (by decide +kernel)
theorem dX12_goes_28 : decode cX12_goes 28 = .ok (.iload_n 1, 1) := dc_27 (by decide +kernel)
theorem dX12_goes_29 : decode cX12_goes 29 = .ok (.iadd, 1) := dc_96 (by decide +kernel)
theorem dX12_goes_30 : decode cX12_goes 30 = .ok (.iconst 0, 1) := dc_3 (by decide +kernel)
theorem dX12_goes_31 : decode cX12_goes 31 = .ok (.iastore, 1) := dc_79 (by decide +kernel)
theorem dX12_goes_32 : decode cX12_goes 32 = .ok (.iinc 2 1, 3) := dc_132 2 1 1 (by decide +kernel)
theorem dX12_goes_35 : decode cX12_goes 35 = .ok (.goto (-26), 3) := dc_167 255 230 (-26) (by decide +kernel)
theorem dX12_goes_38 : decode cX12_goes 38 = .ok (.iconst 0, 1) := dc_3 (by decide +kernel)
theorem dX12_goes_39 : decode cX12_goes 39 = .ok (.istore_n 2, 1) := dc_61 (by decide +kernel)
theorem dX12_goes_40 : decode cX12_goes 40 = .ok (.iload_n 2, 1) := dc_28 (by decide +kernel)
theorem dX12_goes_41 : decode cX12_goes 41 = .ok (.bipush 16, 2) := dc_16 16 16 (by decide +kernel)
theorem dX12_goes_43 : decode cX12_goes 43 = .ok (.if_icmp .ge 60, 3) := dc_162 0 60 60 (by decide +kernel)
theorem dX12_goes_46 : decode cX12_goes 46 = .ok (.aload_n 0, 1) := dc_42 (by decide +kernel)
theorem dX12_goes_47 : decode cX12_goes 47 = .ok (.getfield 7, 3) := dc_180 0 7 (by decide +kernel)
theorem dX12_goes_50 : decode cX12_goes 50 = .ok (.sipush 10216, 3) := dc_17 39 232 10216 (by decide +kernel)
theorem dX12_goes_53 : decode cX12_goes 53 = .ok (.sipush 301, 3) := dc_17 1 45 301 (by decide +kernel)
theorem dX12_goes_56 : decode cX12_goes 56 = .ok (.iload_n 2, 1) := dc_28 (by decide +kernel)
theorem dX12_goes_57 : decode cX12_goes 57 = .ok (.imul, 1) := dc_104 (by decide +kernel)
theorem dX12_goes_58 : decode cX12_goes 58 = .ok (.iadd, 1) := dc_96 (by decide +kernel)
theorem dX12_goes_59 : decode cX12_goes 59 = .ok (.iload_n 1, 1) := dc_27 (by decide +kernel)
theorem dX12_goes_60 : decode cX12_goes 60 = .ok (.iadd, 1) := dc_96 (by decide +kernel)
theorem dX12_goes_61 : decode cX12_goes 61 = .ok (.iconst 0, 1) := dc_3 (by decide +kernel)
theorem dX12_goes_62 : decode cX12_goes 62 = .ok (.iastore, 1) := dc_79 (by decide +kernel)
theorem dX12_goes_63 : decode cX12_goes 63 = .ok (.aload_n 0, 1) := dc_42 (by decide +kernel)
theorem dX12_goes_64 : decode cX12_goes 64 = .ok (.getfield 7, 3) := dc_180 0 7 (by decide +kernel)
theorem dX12_goes_67 : decode cX12_goes 67 = .ok (.sipush 15032, 3) := dc_17 58 184 15032 (by decide +kernel)
theorem dX12_goes_70 : decode cX12_goes 70 = .ok (.sipush 301, 3) := dc_17 1 45 301 (by decide +kernel)
theorem dX12_goes_73 : decode cX12_goes 73 = .ok (.iload_n 2, 1) := dc_28 (by decide +kernel)
theorem dX12_goes_74 : decode cX12_goes 74 = .ok (.imul, 1) := dc_104 (by decide +kernel)
theorem dX12_goes_75 : decode cX12_goes 75 = .ok (.iadd, 1) := dc_96 (by decide +kernel)
theorem dX12_goes_76 : decode cX12_goes 76 = .ok (.iload_n 1, 1) := dc_27 (by decide +kernel)
theorem dX12_goes_77 : decode cX12_goes 77 = .ok (.iadd, 1) := dc_96 (by decide +kernel)
theorem dX12_goes_78 : decode cX12_goes 78 = .ok (.iconst 0, 1) := dc_3 (by decide +kernel)
theorem dX12_goes_79 : decode cX12_goes 79 = .ok (.iastore, 1) := dc_79 (by decide +kernel)
theorem dX12_goes_80 : decode cX12_goes 80 = .ok (.aload_n 0, 1) := dc_42 (by decide +kernel)
theorem dX12_goes_81 : decode cX12_goes 81 = .ok (.getfield 7, 3) := dc_180 0 7 (by decide +kernel)
theorem dX12_goes_84 : decode cX12_goes 84 = .ok (.sipush 19848, 3) := dc_17 77 136 19848 (by decide +kernel)
theorem dX12_goes_87 : decode cX12_goes 87 = .ok (.sipush 301, 3) := dc_17 1 45 301 (by decide +kernel)
theorem dX12_goes_90 : decode cX12_goes 90 = .ok (.iload_n 2, 1) := dc_28 (by decide +kernel)
theorem dX12_goes_91 : decode cX12_goes 91 = .ok (.imul, 1) := dc_104 (by decide +kernel)
theorem dX12_goes_92 : decode cX12_goes 92 = .ok (.iadd, 1) := dc_96 (by decide +kernel)
theorem dX12_goes_93 : decode cX12_goes 93 = .ok (.iload_n 1, 1) := dc_27 (by decide +kernel)
theorem dX12_goes_94 : decode cX12_goes 94 = .ok (.iadd, 1) := dc_96 (by decide +kernel)
theorem dX12_goes_95 : decode cX12_goes 95 = .ok (.iconst 0, 1) := dc_3 (by decide +kernel)
theorem dX12_goes_96 : decode cX12_goes 96 = .ok (.iastore, 1) := dc_79 (by decide +kernel)
theorem dX12_goes_97 : decode cX12_goes 97 = .ok (.iinc 2 1, 3) := dc_132 2 1 1 (by decide +kernel)
theorem dX12_goes_100 : decode cX12_goes 100 = .ok (.goto (-60), 3) := dc_167 255 196 (-60) (by decide +kernel)
theorem dX12_goes_103 : decode cX12_goes 103 = .ok (.aload_n 0, 1) := dc_42 (by decide +kernel)
theorem dX12_goes_104 : decode cX12_goes 104 = .ok (.iload_n 1, 1) := dc_27 (by decide +kernel)
theorem dX12_goes_105 : decode cX12_goes 105 = .ok (.invokevirtual 266, 3) := dc_182 1 10 (by decide +kernel)
theorem kw_7_146 : (Jvm.Cond.methodLink "ParishUnionModel" (266 : Nat) ({ cls := "ParishUnionModel", name := "outside", desc := "(I)V" } : Jvm.MethodName)) ∈ gT := gT_of (tb_7 _ (List.mem_of_getElem? (i := 146) rfl)) rfl
theorem kw_7_149 : (Jvm.Cond.code ({ cls := "ParishUnionModel", name := "outside", desc := "(I)V" } : Jvm.MethodName) prog_14_method_75_code (4 : Nat) (Option.none : Option Jvm.ClassFile.FieldType)) ∈ gT := gT_of (tb_7 _ (List.mem_of_getElem? (i := 149) rfl)) rfl
theorem okX12_outside : gQok yX12_outside cX12_outside 4 (Option.none : Option Jvm.ClassFile.FieldType) 1 := ⟨kw_7_149, kw_1_13, by decide +kernel, by decide +kernel, by decide +kernel⟩
theorem kw_7_148 : (Jvm.Cond.instanceMethod ({ cls := "ParishUnionModel", name := "outside", desc := "(I)V" } : Jvm.MethodName)) ∈ gT := gT_of (tb_7 _ (List.mem_of_getElem? (i := 148) rfl)) rfl
theorem kw_0_77 : (Jvm.Cond.selects "ParishUnionModel" ({ cls := "ParishUnionModel", name := "outside", desc := "(I)V" } : Jvm.MethodName) ({ cls := "ParishUnionModel", name := "outside", desc := "(I)V" } : Jvm.MethodName)) ∈ gT := gT_of (tb_0 _ (List.mem_of_getElem? (i := 77) rfl)) rfl
theorem dX12_goes_108 : decode cX12_goes 108 = .ok (.aload_n 0, 1) := dc_42 (by decide +kernel)
theorem dX12_goes_109 : decode cX12_goes 109 = .ok (.iload_n 1, 1) := dc_27 (by decide +kernel)
theorem dX12_goes_110 : decode cX12_goes 110 = .ok (.invokevirtual 269, 3) := dc_182 1 13 (by decide +kernel)
theorem kw_7_158 : (Jvm.Cond.methodLink "ParishUnionModel" (269 : Nat) ({ cls := "ParishUnionModel", name := "inside", desc := "(I)V" } : Jvm.MethodName)) ∈ gT := gT_of (tb_7 _ (List.mem_of_getElem? (i := 158) rfl)) rfl
theorem kw_7_161 : (Jvm.Cond.code ({ cls := "ParishUnionModel", name := "inside", desc := "(I)V" } : Jvm.MethodName) prog_14_method_76_code (7 : Nat) (Option.none : Option Jvm.ClassFile.FieldType)) ∈ gT := gT_of (tb_7 _ (List.mem_of_getElem? (i := 161) rfl)) rfl
theorem okX12_inside : gQok yX12_inside cX12_inside 7 (Option.none : Option Jvm.ClassFile.FieldType) 1 := ⟨kw_7_161, kw_1_13, by decide +kernel, by decide +kernel, by decide +kernel⟩
theorem kw_7_160 : (Jvm.Cond.instanceMethod ({ cls := "ParishUnionModel", name := "inside", desc := "(I)V" } : Jvm.MethodName)) ∈ gT := gT_of (tb_7 _ (List.mem_of_getElem? (i := 160) rfl)) rfl
theorem kw_0_80 : (Jvm.Cond.selects "ParishUnionModel" ({ cls := "ParishUnionModel", name := "inside", desc := "(I)V" } : Jvm.MethodName) ({ cls := "ParishUnionModel", name := "inside", desc := "(I)V" } : Jvm.MethodName)) ∈ gT := gT_of (tb_0 _ (List.mem_of_getElem? (i := 80) rfl)) rfl
theorem dX12_goes_113 : decode cX12_goes 113 = .ok (.iconst 0, 1) := dc_3 (by decide +kernel)
theorem dX12_goes_114 : decode cX12_goes 114 = .ok (.istore_n 2, 1) := dc_61 (by decide +kernel)
theorem dX12_goes_115 : decode cX12_goes 115 = .ok (.iload_n 2, 1) := dc_28 (by decide +kernel)
theorem dX12_goes_116 : decode cX12_goes 116 = .ok (.aload_n 0, 1) := dc_42 (by decide +kernel)
theorem dX12_goes_117 : decode cX12_goes 117 = .ok (.getfield 7, 3) := dc_180 0 7 (by decide +kernel)
theorem dX12_goes_120 : decode cX12_goes 120 = .ok (.iconst 1, 1) := dc_4 (by decide +kernel)
theorem dX12_goes_121 : decode cX12_goes 121 = .ok (.iaload, 1) := dc_46 (by decide +kernel)
theorem dX12_goes_122 : decode cX12_goes 122 = .ok (.if_icmp .ge 35, 3) := dc_162 0 35 35 (by decide +kernel)
theorem dX12_goes_157 : decode cX12_goes 157 = .ok (.aload_n 0, 1) := dc_42 (by decide +kernel)
theorem dX12_goes_158 : decode cX12_goes 158 = .ok (.getfield 7, 3) := dc_180 0 7 (by decide +kernel)
theorem dX12_goes_161 : decode cX12_goes 161 = .ok (.sipush 25000, 3) := dc_17 97 168 25000 (by decide +kernel)
theorem dX12_goes_164 : decode cX12_goes 164 = .ok (.iload_n 1, 1) := dc_27 (by decide +kernel)
theorem dX12_goes_165 : decode cX12_goes 165 = .ok (.iadd, 1) := dc_96 (by decide +kernel)
theorem dX12_goes_166 : decode cX12_goes 166 = .ok (.aload_n 0, 1) := dc_42 (by decide +kernel)
theorem dX12_goes_167 : decode cX12_goes 167 = .ok (.getfield 7, 3) := dc_180 0 7 (by decide +kernel)
theorem dX12_goes_170 : decode cX12_goes 170 = .ok (.iconst 1, 1) := dc_4 (by decide +kernel)
theorem dX12_goes_171 : decode cX12_goes 171 = .ok (.iaload, 1) := dc_46 (by decide +kernel)
theorem dX12_goes_172 : decode cX12_goes 172 = .ok (.iastore, 1) := dc_79 (by decide +kernel)
theorem dX12_goes_173 : decode cX12_goes 173 = .ok (.aload_n 0, 1) := dc_42 (by decide +kernel)
theorem dX12_goes_174 : decode cX12_goes 174 = .ok (.getfield 7, 3) := dc_180 0 7 (by decide +kernel)
theorem dX12_goes_177 : decode cX12_goes 177 = .ok (.iconst 0, 1) := dc_3 (by decide +kernel)
theorem dX12_goes_178 : decode cX12_goes 178 = .ok (.dup2, 1) := dc_92 (by decide +kernel)
theorem dX12_goes_179 : decode cX12_goes 179 = .ok (.iaload, 1) := dc_46 (by decide +kernel)
theorem dX12_goes_180 : decode cX12_goes 180 = .ok (.iconst 1, 1) := dc_4 (by decide +kernel)
theorem dX12_goes_181 : decode cX12_goes 181 = .ok (.iadd, 1) := dc_96 (by decide +kernel)
theorem dX12_goes_182 : decode cX12_goes 182 = .ok (.iastore, 1) := dc_79 (by decide +kernel)
theorem dX12_goes_183 : decode cX12_goes 183 = .ok (.return_, 1) := dc_177 (by decide +kernel)
theorem dX12_goes_125 : decode cX12_goes 125 = .ok (.aload_n 0, 1) := dc_42 (by decide +kernel)
theorem dX12_goes_126 : decode cX12_goes 126 = .ok (.getfield 7, 3) := dc_180 0 7 (by decide +kernel)
theorem dX12_goes_129 : decode cX12_goes 129 = .ok (.sipush 5400, 3) := dc_17 21 24 5400 (by decide +kernel)
theorem dX12_goes_132 : decode cX12_goes 132 = .ok (.sipush 301, 3) := dc_17 1 45 301 (by decide +kernel)
theorem dX12_goes_135 : decode cX12_goes 135 = .ok (.iload_n 2, 1) := dc_28 (by decide +kernel)
theorem dX12_goes_136 : decode cX12_goes 136 = .ok (.imul, 1) := dc_104 (by decide +kernel)
theorem dX12_goes_137 : decode cX12_goes 137 = .ok (.iadd, 1) := dc_96 (by decide +kernel)
theorem dX12_goes_138 : decode cX12_goes 138 = .ok (.iload_n 1, 1) := dc_27 (by decide +kernel)
theorem dX12_goes_139 : decode cX12_goes 139 = .ok (.iadd, 1) := dc_96 (by decide +kernel)
theorem dX12_goes_140 : decode cX12_goes 140 = .ok (.aload_n 0, 1) := dc_42 (by decide +kernel)
theorem dX12_goes_141 : decode cX12_goes 141 = .ok (.getfield 7, 3) := dc_180 0 7 (by decide +kernel)
theorem dX12_goes_144 : decode cX12_goes 144 = .ok (.sipush 160, 3) := dc_17 0 160 160 (by decide +kernel)
theorem dX12_goes_147 : decode cX12_goes 147 = .ok (.iload_n 2, 1) := dc_28 (by decide +kernel)
theorem dX12_goes_148 : decode cX12_goes 148 = .ok (.iadd, 1) := dc_96 (by decide +kernel)
theorem dX12_goes_149 : decode cX12_goes 149 = .ok (.iaload, 1) := dc_46 (by decide +kernel)
theorem dX12_goes_150 : decode cX12_goes 150 = .ok (.iastore, 1) := dc_79 (by decide +kernel)
theorem dX12_goes_151 : decode cX12_goes 151 = .ok (.iinc 2 1, 3) := dc_132 2 1 1 (by decide +kernel)
theorem dX12_goes_154 : decode cX12_goes 154 = .ok (.goto (-39), 3) := dc_167 255 217 (-39) (by decide +kernel)
abbrev R_X12_goes : Room := { frames := 134, cells := 0, slots := 0, locals := 5650 }
set_option maxRecDepth 100000 in
set_option maxHeartbeats 4000000 in
theorem s_X12_goes {l : Launch} {n0 : Nat} {D : va_G} {cA : Nat → ClassId} {M : gM}  {sz : Nat} (hsz : 206 ≤ sz) (I : gI sz M) (C : gC sz M) (W : gW 191 M) (q_191_0 : 0 ≤ M 191 0 ∧ M 191 0 ≤ 299)  : Met l yX12_goes (gWsOf yX12_goes cX12_goes 3 (Option.none : Option Jvm.ClassFile.FieldType)) R_X12_goes (gPc n0 D cA [gA n0 190] M sz) (gQv n0 D cA sz (fun M1 => gI sz M1 ∧ gC sz M1 ∧ gFr 2475884181819525777879728128 M M1 ∧ (gW 191 M1 ∧ M1 191 0 = M 191 0 + 1))) 0 0 (fun q => n0 ≤ q) := by
  refine gMetV [gA n0 190] (by decide) (Nat.le_of_ble_eq_true rfl) ⟨rfl, rfl⟩ ?_
  intro p e s m args below meth cd Q X hq
  have X : gCx p s m args meth cd n0 D cA "ParishUnionModel" cX12_goes 3 := X
  show G p l e R_X12_goes s m args below meth cd n0 D cA 3 Q 0 0 M sz 0 [(0, gA n0 190)] []
  obtain ⟨v1, hv1, rv1⟩ := gRd I (by decide) (gsz hsz (by decide)) (rs_PERS (k := 1) (by omega)).1
  obtain ⟨v2, hv2, rv2⟩ := gRd I (by decide) (gsz hsz (by decide)) (rs_NOW (k := 0) (by omega)).1
  refine g_aload_n (n := 1) X 0 dX12_goes_0 rfl rfl rfl ?_
  refine gg_12_1 (n := 4) (z := 191) X (by decide) (gsz hsz (by decide)) lay_190 kw_6_27 dX12_goes_1 rfl (rf_190_1 I (gsz hsz (by decide))) (by decide) ?_
  refine g_iconst (n := 5) X dX12_goes_4 rfl ?_
  refine g_iald2 (n := 6) (v := v2) X (by decide) (gsz hsz (by decide)) lay_191 (by omega) (by omega) (by decide) dX12_goes_5 rfl hv2 ?_
  refine g_istore_n (n := 7) (L' := [(1, gJ v2), (0, gA n0 190)]) X dX12_goes_6 rfl (by decide) rfl rfl ?_
  refine g_iconst (n := 8) X dX12_goes_7 rfl ?_
  refine g_istore_n (n := 9) (L' := [(2, gJ 0), (1, gJ v2), (0, gA n0 190)]) X dX12_goes_8 rfl (by decide) rfl rfl ?_
  have j5 : ∀ (N272 : Nat) (v3 : Int) (M4 : gM) , (0 ≤ v3 ∧ v3 ≤ 6) → gI sz M4 → gC sz M4 → gFr 1152921504606846976 M M4 → (6 - v3).toNat < N272 → G p l e R_X12_goes s m args below meth cd n0 D cA 3 Q 0 0 M4 sz 9 [(0, gA n0 190), (1, gJ v2), (2, gJ v3)] [] := by
    intro N272; induction N272 with
    | zero => intro v3 M4 rv3 IM4 CM4 FM4 hm274; exfalso; omega
    | succ N272 ih273 =>
      intro v3 M4 rv3 IM4 CM4 FM4 hm274
      refine g_iload_n (n := 10) X 2 dX12_goes_9 rfl rfl rfl ?_
      refine g_bipush (n := 12) X dX12_goes_10 (by decide +kernel) rfl ?_
      refine g_icmp_ge (n := 15) (tgt := 38) X dX12_goes_12 (by decide) (by omega) (by omega) rfl (fun c275 => ?_) (fun c275 => ?_)
      · refine g_iconst (n := 39) X dX12_goes_38 rfl ?_
        refine g_istore_n (n := 40) (L' := [(2, gJ 0), (0, gA n0 190), (1, gJ v2)]) X dX12_goes_39 rfl (by decide) rfl rfl ?_
        have j280 : ∀ (N427 : Nat) (v278 : Int) (M279 : gM) , (0 ≤ v278 ∧ v278 ≤ 16) → gI sz M279 → gC sz M279 → gFr 4611686018427387904 M4 M279 → (16 - v278).toNat < N427 → G p l e R_X12_goes s m args below meth cd n0 D cA 3 Q 0 0 M279 sz 40 [(0, gA n0 190), (1, gJ v2), (2, gJ v278)] [] := by
          intro N427; induction N427 with
          | zero => intro v278 M279 rv278 IM279 CM279 FM279 hm429; exfalso; omega
          | succ N427 ih428 =>
            intro v278 M279 rv278 IM279 CM279 FM279 hm429
            refine g_iload_n (n := 41) X 2 dX12_goes_40 rfl rfl rfl ?_
            refine g_bipush (n := 43) X dX12_goes_41 (by decide +kernel) rfl ?_
            refine g_icmp_ge (n := 46) (tgt := 103) X dX12_goes_43 (by decide) (by omega) (by omega) rfl (fun c430 => ?_) (fun c430 => ?_)
            · refine g_aload_n (n := 104) X 0 dX12_goes_103 rfl rfl rfl ?_
              refine g_iload_n (n := 105) X 1 dX12_goes_104 rfl rfl rfl ?_
              refine g_callVv (n := 108) (As := [gJ v2]) (rest := []) (cs1 := 0) (ss1 := 0) X (s_X12_outside v2 (by omega) hsz IM279 CM279 (gW.fr (S := 5764607523034234880) W ⟨sz, hsz, I⟩ (gFr.c (gFr.c gFr.rf FM4 rfl) FM279 rfl) rfl)) okX12_outside kw_7_146 ⟨kw_7_148, kw_0_77⟩ ⟨rfl, rfl⟩ ⟨Nat.le_of_ble_eq_true rfl, Nat.le_of_ble_eq_true rfl⟩ rfl (by decide) (gsz hsz (by decide)) lay_190 rfl rfl (Nat.le_of_ble_eq_true rfl) ⟨Nat.le_of_ble_eq_true rfl, Nat.le_of_ble_eq_true rfl⟩ rfl rfl dX12_goes_105 rfl (fun M438 P439 => ?_)
              obtain ⟨IM438, CM438, FM438⟩ := P439
              refine g_aload_n (n := 109) X 0 dX12_goes_108 rfl rfl rfl ?_
              refine g_iload_n (n := 110) X 1 dX12_goes_109 rfl rfl rfl ?_
              refine g_callVv (n := 113) (As := [gJ v2]) (rest := []) (cs1 := 0) (ss1 := 0) X (s_X12_inside v2 (by omega) hsz IM438 CM438 (gW.fr (S := 2475884179513678336259784704) W ⟨sz, hsz, I⟩ (gFr.c (gFr.c (gFr.c gFr.rf FM4 rfl) FM279 rfl) FM438 rfl) rfl)) okX12_inside kw_7_158 ⟨kw_7_160, kw_0_80⟩ ⟨rfl, rfl⟩ ⟨Nat.le_of_ble_eq_true rfl, Nat.le_of_ble_eq_true rfl⟩ rfl (by decide) (gsz hsz (by decide)) lay_190 rfl rfl (Nat.le_of_ble_eq_true rfl) ⟨Nat.le_of_ble_eq_true rfl, Nat.le_of_ble_eq_true rfl⟩ rfl rfl dX12_goes_110 rfl (fun M441 P442 => ?_)
              obtain ⟨IM441, CM441, FM441⟩ := P442
              refine g_iconst (n := 114) X dX12_goes_113 rfl ?_
              refine g_istore_n (n := 115) (L' := [(2, gJ 0), (0, gA n0 190), (1, gJ v2)]) X dX12_goes_114 rfl (by decide) rfl rfl ?_
              have j445 : ∀ (N510 : Nat) (v443 : Int) (M444 : gM) , (0 ≤ v443 ∧ v443 ≤ 16) → gI sz M444 → gC sz M444 → gFr 4611686018427387904 M441 M444 → (16 - v443).toNat < N510 → G p l e R_X12_goes s m args below meth cd n0 D cA 3 Q 0 0 M444 sz 115 [(0, gA n0 190), (1, gJ v2), (2, gJ v443)] [] := by
                intro N510; induction N510 with
                | zero => intro v443 M444 rv443 IM444 CM444 FM444 hm512; exfalso; omega
                | succ N510 ih511 =>
                  intro v443 M444 rv443 IM444 CM444 FM444 hm512
                  refine g_iload_n (n := 116) X 2 dX12_goes_115 rfl rfl rfl ?_
                  refine g_aload_n (n := 117) X 0 dX12_goes_116 rfl rfl rfl ?_
                  refine gg_12_1 (n := 120) (z := 191) X (by decide) (gsz hsz (by decide)) lay_190 kw_6_27 dX12_goes_117 rfl (rf_190_1 IM444 (gsz hsz (by decide))) (by decide) ?_
                  refine g_iconst (n := 121) X dX12_goes_120 rfl ?_
                  refine g_iald2 (n := 122) (v := v1) X (by decide) (gsz hsz (by decide)) lay_191 (by omega) (by omega) (by decide) dX12_goes_121 rfl ((gFr.at FM444 (rs_PERS (k := 1) (by omega)).2.2 rfl).trans ((gFr.at FM441 (rs_PERS (k := 1) (by omega)).2.2 rfl).trans ((gFr.at FM438 (rs_PERS (k := 1) (by omega)).2.2 rfl).trans ((gFr.at FM279 (rs_PERS (k := 1) (by omega)).2.2 rfl).trans ((gFr.at FM4 (rs_PERS (k := 1) (by omega)).2.2 rfl).trans hv1))))) ?_
                  refine g_icmp_ge (n := 125) (tgt := 157) X dX12_goes_122 (by decide) (by omega) (by omega) rfl (fun c513 => ?_) (fun c513 => ?_)
                  · refine g_aload_n (n := 158) X 0 dX12_goes_157 rfl rfl rfl ?_
                    refine gg_12_1 (n := 161) (z := 191) X (by decide) (gsz hsz (by decide)) lay_190 kw_6_27 dX12_goes_158 rfl (rf_190_1 IM444 (gsz hsz (by decide))) (by decide) ?_
                    refine g_sipush (n := 164) X dX12_goes_161 (by decide +kernel) rfl ?_
                    refine g_iload_n (n := 165) X 1 dX12_goes_164 rfl rfl rfl ?_
                    refine g_iadd (n := 166) (z := v2 + 25000) X dX12_goes_165 (by omega) rfl ?_
                    refine g_aload_n (n := 167) X 0 dX12_goes_166 rfl rfl rfl ?_
                    refine gg_12_1 (n := 170) (z := 191) X (by decide) (gsz hsz (by decide)) lay_190 kw_6_27 dX12_goes_167 rfl (rf_190_1 IM444 (gsz hsz (by decide))) (by decide) ?_
                    refine g_iconst (n := 171) X dX12_goes_170 rfl ?_
                    refine g_iald2 (n := 172) (v := v1) X (by decide) (gsz hsz (by decide)) lay_191 (by omega) (by omega) (by decide) dX12_goes_171 rfl ((gFr.at FM444 (rs_PERS (k := 1) (by omega)).2.2 rfl).trans ((gFr.at FM441 (rs_PERS (k := 1) (by omega)).2.2 rfl).trans ((gFr.at FM438 (rs_PERS (k := 1) (by omega)).2.2 rfl).trans ((gFr.at FM279 (rs_PERS (k := 1) (by omega)).2.2 rfl).trans ((gFr.at FM4 (rs_PERS (k := 1) (by omega)).2.2 rfl).trans hv1))))) ?_
                    refine g_iast (n := 173) X (by decide) (gsz hsz (by decide)) lay_191 (by omega) (by omega) (by decide) dX12_goes_172 rfl ?_
                    refine G.nm (fun M514 e515 => ?_)
                    have IM514 : gI sz M514 := gI.set IM444 (rs_GPERS (k := v2 + 25000) (by omega)).1 (by omega) e515
                    have CM514 : gC sz M514 := gC.set CM444 (rs_GPERS (k := v2 + 25000) (by omega)).2.1 e515
                    refine g_aload_n (n := 174) X 0 dX12_goes_173 rfl rfl rfl ?_
                    refine gg_12_1 (n := 177) (z := 191) X (by decide) (gsz hsz (by decide)) lay_190 kw_6_27 dX12_goes_174 rfl (rf_190_1 IM514 (gsz hsz (by decide))) (by decide) ?_
                    refine g_iconst (n := 178) X dX12_goes_177 rfl ?_
                    refine g_dup2 (n := 179) X dX12_goes_178 rfl rfl rfl ?_
                    refine g_iald2 (n := 180) (v := v2) X (by decide) (gsz hsz (by decide)) lay_191 (by omega) (by omega) (by decide) dX12_goes_179 rfl ((congrFun (congrFun e515 _) _).trans ((gset_ne (by omega)).trans ((gFr.at FM444 (rs_NOW (k := 0) (by omega)).2.2 rfl).trans ((gFr.at FM441 (rs_NOW (k := 0) (by omega)).2.2 rfl).trans ((gFr.at FM438 (rs_NOW (k := 0) (by omega)).2.2 rfl).trans ((gFr.at FM279 (rs_NOW (k := 0) (by omega)).2.2 rfl).trans ((gFr.at FM4 (rs_NOW (k := 0) (by omega)).2.2 rfl).trans hv2))))))) ?_
                    refine g_iconst (n := 181) X dX12_goes_180 rfl ?_
                    refine g_iadd (n := 182) (z := v2 + 1) X dX12_goes_181 (by omega) rfl ?_
                    refine g_iast (n := 183) X (by decide) (gsz hsz (by decide)) lay_191 (by omega) (by omega) (by decide) dX12_goes_182 rfl ?_
                    refine G.nm (fun M516 e517 => ?_)
                    have IM516 : gI sz M516 := gI.set IM514 (rs_NOW (k := 0) (by omega)).1 (by omega) e517
                    have CM516 : gC sz M516 := gC.set CM514 (rs_NOW (k := 0) (by omega)).2.1 e517
                    exact hq _ _ _ dX12_goes_183 ⟨IM516, CM516, (gFr.s (gFr.s (gFr.c (gFr.c (gFr.c (gFr.c (gFr.c gFr.rf FM4 rfl) FM279 rfl) FM438 rfl) FM441 rfl) FM444 rfl) e515 (rs_GPERS (k := v2 + 25000) (by omega)).2.2 rfl) e517 (rs_NOW (k := 0) (by omega)).2.2 rfl), ⟨gW.goes hsz IM444 (gW.fr (S := 2475884179513682734306295808) W ⟨sz, hsz, I⟩ (gFr.c (gFr.c (gFr.c (gFr.c (gFr.c gFr.rf FM4 rfl) FM279 rfl) FM438 rfl) FM441 rfl) FM444 rfl) rfl) ((gFr.at FM444 (rs_NOW (k := 0) (by omega)).2.2 rfl).trans ((gFr.at FM441 (rs_NOW (k := 0) (by omega)).2.2 rfl).trans ((gFr.at FM438 (rs_NOW (k := 0) (by omega)).2.2 rfl).trans ((gFr.at FM279 (rs_NOW (k := 0) (by omega)).2.2 rfl).trans ((gFr.at FM4 (rs_NOW (k := 0) (by omega)).2.2 rfl).trans hv2))))) (by omega) ((gFr.at FM444 (rs_PERS (k := 1) (by omega)).2.2 rfl).trans ((gFr.at FM441 (rs_PERS (k := 1) (by omega)).2.2 rfl).trans ((gFr.at FM438 (rs_PERS (k := 1) (by omega)).2.2 rfl).trans ((gFr.at FM279 (rs_PERS (k := 1) (by omega)).2.2 rfl).trans ((gFr.at FM4 (rs_PERS (k := 1) (by omega)).2.2 rfl).trans hv1))))) e515 e517 (by omega) (by omega), by have q1 := ((congrFun (congrFun e517 _) _).trans (gset_eq _ _ _ _)); omega⟩⟩
                  · refine g_aload_n (n := 126) X 0 dX12_goes_125 rfl rfl rfl ?_
                    refine gg_12_1 (n := 129) (z := 191) X (by decide) (gsz hsz (by decide)) lay_190 kw_6_27 dX12_goes_126 rfl (rf_190_1 IM444 (gsz hsz (by decide))) (by decide) ?_
                    refine g_sipush (n := 132) X dX12_goes_129 (by decide +kernel) rfl ?_
                    refine g_sipush (n := 135) X dX12_goes_132 (by decide +kernel) rfl ?_
                    refine g_iload_n (n := 136) X 2 dX12_goes_135 rfl rfl rfl ?_
                    refine g_imul (n := 137) (z := 301 * v443) X dX12_goes_136 rfl rfl ?_
                    refine g_iadd (n := 138) (z := 5400 + (301 * v443)) X dX12_goes_137 rfl rfl ?_
                    refine g_iload_n (n := 139) X 1 dX12_goes_138 rfl rfl rfl ?_
                    refine g_iadd (n := 140) (z := (5400 + (301 * v443)) + v2) X dX12_goes_139 rfl rfl ?_
                    refine g_aload_n (n := 141) X 0 dX12_goes_140 rfl rfl rfl ?_
                    refine gg_12_1 (n := 144) (z := 191) X (by decide) (gsz hsz (by decide)) lay_190 kw_6_27 dX12_goes_141 rfl (rf_190_1 IM444 (gsz hsz (by decide))) (by decide) ?_
                    refine g_sipush (n := 147) X dX12_goes_144 (by decide +kernel) rfl ?_
                    refine g_iload_n (n := 148) X 2 dX12_goes_147 rfl rfl rfl ?_
                    refine g_iadd (n := 149) (z := v443 + 160) X dX12_goes_148 (by omega) rfl ?_
                    obtain ⟨v518, hv518, rv518⟩ := gRd IM444 (by decide) (gsz hsz (by decide)) (rs_AT (k := v443 + 160) (by omega)).1
                    refine g_iald2 (n := 150) (v := v518) X (by decide) (gsz hsz (by decide)) lay_191 (by omega) (by omega) (by decide) dX12_goes_149 rfl hv518 ?_
                    refine g_iast (n := 151) X (by decide) (gsz hsz (by decide)) lay_191 (by omega) (by omega) (by decide) dX12_goes_150 rfl ?_
                    refine G.nm (fun M519 e520 => ?_)
                    have IM519 : gI sz M519 := gI.set IM444 (rs_W (k := (5400 + (301 * v443)) + v2) (by omega)).1 (by omega) e520
                    have CM519 : gC sz M519 := gC.set CM444 (rs_W (k := (5400 + (301 * v443)) + v2) (by omega)).2.1 e520
                    refine g_iinc (n := 154) (w := v443 + 1) (L' := [(2, gJ (v443 + 1)), (0, gA n0 190), (1, gJ v2)]) X 2 dX12_goes_151 rfl rfl (by decide) rfl rfl ?_
                    refine g_goto (tgt := 115) X dX12_goes_154 (by decide) ?_
                    refine G.sub (L' := [(0, gA n0 190), (1, gJ v2), (2, gJ (v443 + 1))]) [1, 2, 0] rfl ?_
                    exact ih511 (v443 + 1) M519 (by omega) IM519 CM519 (gFr.s (gFr.c gFr.rf FM444 rfl) e520 (rs_W (k := (5400 + (301 * v443)) + v2) (by omega)).2.2 rfl) (by omega)
              refine G.sub (L' := [(0, gA n0 190), (1, gJ v2), (2, gJ 0)]) [1, 2, 0] rfl ?_
              exact j445 _ 0 M441 (by omega) IM441 CM441 gFr.rf (Nat.lt_succ_self _)
            · refine g_aload_n (n := 47) X 0 dX12_goes_46 rfl rfl rfl ?_
              refine gg_12_1 (n := 50) (z := 191) X (by decide) (gsz hsz (by decide)) lay_190 kw_6_27 dX12_goes_47 rfl (rf_190_1 IM279 (gsz hsz (by decide))) (by decide) ?_
              refine g_sipush (n := 53) X dX12_goes_50 (by decide +kernel) rfl ?_
              refine g_sipush (n := 56) X dX12_goes_53 (by decide +kernel) rfl ?_
              refine g_iload_n (n := 57) X 2 dX12_goes_56 rfl rfl rfl ?_
              refine g_imul (n := 58) (z := 301 * v278) X dX12_goes_57 rfl rfl ?_
              refine g_iadd (n := 59) (z := 10216 + (301 * v278)) X dX12_goes_58 rfl rfl ?_
              refine g_iload_n (n := 60) X 1 dX12_goes_59 rfl rfl rfl ?_
              refine g_iadd (n := 61) (z := (10216 + (301 * v278)) + v2) X dX12_goes_60 rfl rfl ?_
              refine g_iconst (n := 62) X dX12_goes_61 rfl ?_
              refine g_iast (n := 63) X (by decide) (gsz hsz (by decide)) lay_191 (by omega) (by omega) (by decide) dX12_goes_62 rfl ?_
              refine G.nm (fun M521 e522 => ?_)
              have IM521 : gI sz M521 := gI.set IM279 (rs_W (k := (10216 + (301 * v278)) + v2) (by omega)).1 (by omega) e522
              have CM521 : gC sz M521 := gC.set CM279 (rs_W (k := (10216 + (301 * v278)) + v2) (by omega)).2.1 e522
              refine g_aload_n (n := 64) X 0 dX12_goes_63 rfl rfl rfl ?_
              refine gg_12_1 (n := 67) (z := 191) X (by decide) (gsz hsz (by decide)) lay_190 kw_6_27 dX12_goes_64 rfl (rf_190_1 IM521 (gsz hsz (by decide))) (by decide) ?_
              refine g_sipush (n := 70) X dX12_goes_67 (by decide +kernel) rfl ?_
              refine g_sipush (n := 73) X dX12_goes_70 (by decide +kernel) rfl ?_
              refine g_iload_n (n := 74) X 2 dX12_goes_73 rfl rfl rfl ?_
              refine g_imul (n := 75) (z := 301 * v278) X dX12_goes_74 rfl rfl ?_
              refine g_iadd (n := 76) (z := 15032 + (301 * v278)) X dX12_goes_75 rfl rfl ?_
              refine g_iload_n (n := 77) X 1 dX12_goes_76 rfl rfl rfl ?_
              refine g_iadd (n := 78) (z := (15032 + (301 * v278)) + v2) X dX12_goes_77 rfl rfl ?_
              refine g_iconst (n := 79) X dX12_goes_78 rfl ?_
              refine g_iast (n := 80) X (by decide) (gsz hsz (by decide)) lay_191 (by omega) (by omega) (by decide) dX12_goes_79 rfl ?_
              refine G.nm (fun M523 e524 => ?_)
              have IM523 : gI sz M523 := gI.set IM521 (rs_W (k := (15032 + (301 * v278)) + v2) (by omega)).1 (by omega) e524
              have CM523 : gC sz M523 := gC.set CM521 (rs_W (k := (15032 + (301 * v278)) + v2) (by omega)).2.1 e524
              refine g_aload_n (n := 81) X 0 dX12_goes_80 rfl rfl rfl ?_
              refine gg_12_1 (n := 84) (z := 191) X (by decide) (gsz hsz (by decide)) lay_190 kw_6_27 dX12_goes_81 rfl (rf_190_1 IM523 (gsz hsz (by decide))) (by decide) ?_
              refine g_sipush (n := 87) X dX12_goes_84 (by decide +kernel) rfl ?_
              refine g_sipush (n := 90) X dX12_goes_87 (by decide +kernel) rfl ?_
              refine g_iload_n (n := 91) X 2 dX12_goes_90 rfl rfl rfl ?_
              refine g_imul (n := 92) (z := 301 * v278) X dX12_goes_91 rfl rfl ?_
              refine g_iadd (n := 93) (z := 19848 + (301 * v278)) X dX12_goes_92 rfl rfl ?_
              refine g_iload_n (n := 94) X 1 dX12_goes_93 rfl rfl rfl ?_
              refine g_iadd (n := 95) (z := (19848 + (301 * v278)) + v2) X dX12_goes_94 rfl rfl ?_
              refine g_iconst (n := 96) X dX12_goes_95 rfl ?_
              refine g_iast (n := 97) X (by decide) (gsz hsz (by decide)) lay_191 (by omega) (by omega) (by decide) dX12_goes_96 rfl ?_
              refine G.nm (fun M525 e526 => ?_)
              have IM525 : gI sz M525 := gI.set IM523 (rs_W (k := (19848 + (301 * v278)) + v2) (by omega)).1 (by omega) e526
              have CM525 : gC sz M525 := gC.set CM523 (rs_W (k := (19848 + (301 * v278)) + v2) (by omega)).2.1 e526
              refine g_iinc (n := 100) (w := v278 + 1) (L' := [(2, gJ (v278 + 1)), (0, gA n0 190), (1, gJ v2)]) X 2 dX12_goes_97 rfl rfl (by decide) rfl rfl ?_
              refine g_goto (tgt := 40) X dX12_goes_100 (by decide) ?_
              refine G.sub (L' := [(0, gA n0 190), (1, gJ v2), (2, gJ (v278 + 1))]) [1, 2, 0] rfl ?_
              exact ih428 (v278 + 1) M525 (by omega) IM525 CM525 (gFr.s (gFr.s (gFr.s (gFr.c gFr.rf FM279 rfl) e522 (rs_W (k := (10216 + (301 * v278)) + v2) (by omega)).2.2 rfl) e524 (rs_W (k := (15032 + (301 * v278)) + v2) (by omega)).2.2 rfl) e526 (rs_W (k := (19848 + (301 * v278)) + v2) (by omega)).2.2 rfl) (by omega)
        refine G.sub (L' := [(0, gA n0 190), (1, gJ v2), (2, gJ 0)]) [1, 2, 0] rfl ?_
        exact j280 _ 0 M4 (by omega) IM4 CM4 gFr.rf (Nat.lt_succ_self _)
      · refine g_aload_n (n := 16) X 0 dX12_goes_15 rfl rfl rfl ?_
        refine gg_12_1 (n := 19) (z := 191) X (by decide) (gsz hsz (by decide)) lay_190 kw_6_27 dX12_goes_16 rfl (rf_190_1 IM4 (gsz hsz (by decide))) (by decide) ?_
        refine g_sipush (n := 22) X dX12_goes_19 (by decide +kernel) rfl ?_
        refine g_sipush (n := 25) X dX12_goes_22 (by decide +kernel) rfl ?_
        refine g_iload_n (n := 26) X 2 dX12_goes_25 rfl rfl rfl ?_
        refine g_imul (n := 27) (z := 301 * v3) X dX12_goes_26 rfl rfl ?_
        refine g_iadd (n := 28) (z := 3200 + (301 * v3)) X dX12_goes_27 rfl rfl ?_
        refine g_iload_n (n := 29) X 1 dX12_goes_28 rfl rfl rfl ?_
        refine g_iadd (n := 30) (z := (3200 + (301 * v3)) + v2) X dX12_goes_29 rfl rfl ?_
        refine g_iconst (n := 31) X dX12_goes_30 rfl ?_
        refine g_iast (n := 32) X (by decide) (gsz hsz (by decide)) lay_191 (by omega) (by omega) (by decide) dX12_goes_31 rfl ?_
        refine G.nm (fun M527 e528 => ?_)
        have IM527 : gI sz M527 := gI.set IM4 (rs_G (k := (3200 + (301 * v3)) + v2) (by omega)).1 (by omega) e528
        have CM527 : gC sz M527 := gC.set CM4 (rs_G (k := (3200 + (301 * v3)) + v2) (by omega)).2.1 e528
        refine g_iinc (n := 35) (w := v3 + 1) (L' := [(2, gJ (v3 + 1)), (0, gA n0 190), (1, gJ v2)]) X 2 dX12_goes_32 rfl rfl (by decide) rfl rfl ?_
        refine g_goto (tgt := 9) X dX12_goes_35 (by decide) ?_
        refine G.sub (L' := [(0, gA n0 190), (1, gJ v2), (2, gJ (v3 + 1))]) [1, 2, 0] rfl ?_
        exact ih273 (v3 + 1) M527 (by omega) IM527 CM527 (gFr.s (gFr.c gFr.rf FM4 rfl) e528 (rs_G (k := (3200 + (301 * v3)) + v2) (by omega)).2.2 rfl) (by omega)
  refine G.sub (L' := [(0, gA n0 190), (1, gJ v2), (2, gJ 0)]) [2, 1, 0] rfl ?_
  exact j5 _ 0 M (by omega) I C gFr.rf (Nat.lt_succ_self _)
