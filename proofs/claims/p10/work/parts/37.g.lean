theorem rc_206_10 : gRg 206 10 = (0, 16) ∧ gCr 206 10 = false ∧ gG 206 10 = 75 := by decide +kernel
theorem rc_206_11 : gRg 206 11 = (0, 40) ∧ gCr 206 11 = false ∧ gG 206 11 = 75 := by decide +kernel
theorem rc_206_12 : gRg 206 12 = (0, 80) ∧ gCr 206 12 = false ∧ gG 206 12 = 75 := by decide +kernel
theorem rc_206_13 : gRg 206 13 = (0, 11) ∧ gCr 206 13 = false ∧ gG 206 13 = 75 := by decide +kernel
theorem rc_206_14 : gRg 206 14 = (0, 150) ∧ gCr 206 14 = false ∧ gG 206 14 = 75 := by decide +kernel
theorem rc_206_15 : gRg 206 15 = (0, 300) ∧ gCr 206 15 = false ∧ gG 206 15 = 75 := by decide +kernel
theorem dX9_copyFrom_0 : decode cX9_copyFrom 0 = .ok (.aload_n 0, 1) := dc_42 (by decide +kernel)
theorem dX9_copyFrom_1 : decode cX9_copyFrom 1 = .ok (.getfield 12, 3) := dc_180 0 12 (by decide +kernel)
theorem rf_206_0 {sz : Nat} {M : gM} (I : gI sz M) (h : (206 : Int) < (sz : Int)) : M 206 0 = 207 + 1 := gI.rf I (by decide) h (by decide +kernel)
theorem dX9_copyFrom_4 : decode cX9_copyFrom 4 = .ok (.aload_n 1, 1) := dc_43 (by decide +kernel)
theorem dX9_copyFrom_5 : decode cX9_copyFrom 5 = .ok (.getfield 12, 3) := dc_180 0 12 (by decide +kernel)
theorem dX9_copyFrom_8 : decode cX9_copyFrom 8 = .ok (.invokevirtual 75, 3) := dc_182 0 75 (by decide +kernel)
theorem kw_5_216 : (Jvm.Cond.methodLink "ParishUnion$Union" (75 : Nat) ({ cls := "ParishUnion$Land", name := "copyFrom", desc := "(LParishUnion$Land;)V" } : Jvm.MethodName)) ∈ gT := gT_of (tb_5 _ (List.mem_of_getElem? (i := 216) rfl)) rfl
theorem kw_5_219 : (Jvm.Cond.code ({ cls := "ParishUnion$Land", name := "copyFrom", desc := "(LParishUnion$Land;)V" } : Jvm.MethodName) prog_5_method_2_code (2 : Nat) (Option.none : Option Jvm.ClassFile.FieldType)) ∈ gT := gT_of (tb_5 _ (List.mem_of_getElem? (i := 219) rfl)) rfl
theorem okX3_copyFrom : gQok yX3_copyFrom cX3_copyFrom 2 (Option.none : Option Jvm.ClassFile.FieldType) 1 := ⟨kw_5_219, kw_1_3, by decide +kernel, by decide +kernel, by decide +kernel⟩
theorem kw_5_217 : (Jvm.Cond.instanceMethod ({ cls := "ParishUnion$Land", name := "copyFrom", desc := "(LParishUnion$Land;)V" } : Jvm.MethodName)) ∈ gT := gT_of (tb_5 _ (List.mem_of_getElem? (i := 217) rfl)) rfl
theorem kw_5_218 : (Jvm.Cond.selects "ParishUnion$Land" ({ cls := "ParishUnion$Land", name := "copyFrom", desc := "(LParishUnion$Land;)V" } : Jvm.MethodName) ({ cls := "ParishUnion$Land", name := "copyFrom", desc := "(LParishUnion$Land;)V" } : Jvm.MethodName)) ∈ gT := gT_of (tb_5 _ (List.mem_of_getElem? (i := 218) rfl)) rfl
theorem dX9_copyFrom_11 : decode cX9_copyFrom 11 = .ok (.iconst 0, 1) := dc_3 (by decide +kernel)
theorem dX9_copyFrom_12 : decode cX9_copyFrom 12 = .ok (.istore_n 2, 1) := dc_61 (by decide +kernel)
theorem dX9_copyFrom_13 : decode cX9_copyFrom 13 = .ok (.iload_n 2, 1) := dc_28 (by decide +kernel)
theorem dX9_copyFrom_14 : decode cX9_copyFrom 14 = .ok (.aload_n 1, 1) := dc_43 (by decide +kernel)
theorem dX9_copyFrom_15 : decode cX9_copyFrom 15 = .ok (.getfield 79, 3) := dc_180 0 79 (by decide +kernel)
theorem dX9_copyFrom_18 : decode cX9_copyFrom 18 = .ok (.if_icmp .ge 24, 3) := dc_162 0 24 24 (by decide +kernel)
theorem dX9_copyFrom_21 : decode cX9_copyFrom 21 = .ok (.aload_n 0, 1) := dc_42 (by decide +kernel)
theorem dX9_copyFrom_22 : decode cX9_copyFrom 22 = .ok (.getfield 20, 3) := dc_180 0 20 (by decide +kernel)
theorem rf_206_1 {sz : Nat} {M : gM} (I : gI sz M) (h : (206 : Int) < (sz : Int)) : M 206 1 = 210 + 1 := gI.rf I (by decide) h (by decide +kernel)
theorem dX9_copyFrom_25 : decode cX9_copyFrom 25 = .ok (.iload_n 2, 1) := dc_28 (by decide +kernel)
theorem dX9_copyFrom_26 : decode cX9_copyFrom 26 = .ok (.aaload, 1) := dc_50 (by decide +kernel)
theorem dX9_copyFrom_27 : decode cX9_copyFrom 27 = .ok (.aload_n 1, 1) := dc_43 (by decide +kernel)
theorem dX9_copyFrom_28 : decode cX9_copyFrom 28 = .ok (.getfield 20, 3) := dc_180 0 20 (by decide +kernel)
theorem dX9_copyFrom_31 : decode cX9_copyFrom 31 = .ok (.iload_n 2, 1) := dc_28 (by decide +kernel)
theorem dX9_copyFrom_32 : decode cX9_copyFrom 32 = .ok (.aaload, 1) := dc_50 (by decide +kernel)
theorem dX9_copyFrom_33 : decode cX9_copyFrom 33 = .ok (.invokevirtual 83, 3) := dc_182 0 83 (by decide +kernel)
theorem kw_5_221 : (Jvm.Cond.methodLink "ParishUnion$Union" (83 : Nat) ({ cls := "ParishUnion$Person", name := "copyFrom", desc := "(LParishUnion$Person;)V" } : Jvm.MethodName)) ∈ gT := gT_of (tb_5 _ (List.mem_of_getElem? (i := 221) rfl)) rfl
theorem dX9_copyFrom_36 : decode cX9_copyFrom 36 = .ok (.iinc 2 1, 3) := dc_132 2 1 1 (by decide +kernel)
theorem dX9_copyFrom_39 : decode cX9_copyFrom 39 = .ok (.goto (-26), 3) := dc_167 255 230 (-26) (by decide +kernel)
theorem dX9_copyFrom_42 : decode cX9_copyFrom 42 = .ok (.iconst 0, 1) := dc_3 (by decide +kernel)
theorem dX9_copyFrom_43 : decode cX9_copyFrom 43 = .ok (.istore_n 2, 1) := dc_61 (by decide +kernel)
theorem dX9_copyFrom_44 : decode cX9_copyFrom 44 = .ok (.iload_n 2, 1) := dc_28 (by decide +kernel)
theorem dX9_copyFrom_45 : decode cX9_copyFrom 45 = .ok (.aload_n 1, 1) := dc_43 (by decide +kernel)
theorem dX9_copyFrom_46 : decode cX9_copyFrom 46 = .ok (.getfield 86, 3) := dc_180 0 86 (by decide +kernel)
theorem dX9_copyFrom_49 : decode cX9_copyFrom 49 = .ok (.if_icmp .ge 24, 3) := dc_162 0 24 24 (by decide +kernel)
theorem dX9_copyFrom_52 : decode cX9_copyFrom 52 = .ok (.aload_n 0, 1) := dc_42 (by decide +kernel)
theorem dX9_copyFrom_53 : decode cX9_copyFrom 53 = .ok (.getfield 26, 3) := dc_180 0 26 (by decide +kernel)
theorem rf_206_2 {sz : Nat} {M : gM} (I : gI sz M) (h : (206 : Int) < (sz : Int)) : M 206 2 = 211 + 1 := gI.rf I (by decide) h (by decide +kernel)
theorem dX9_copyFrom_56 : decode cX9_copyFrom 56 = .ok (.iload_n 2, 1) := dc_28 (by decide +kernel)
theorem dX9_copyFrom_57 : decode cX9_copyFrom 57 = .ok (.aaload, 1) := dc_50 (by decide +kernel)
theorem dX9_copyFrom_58 : decode cX9_copyFrom 58 = .ok (.aload_n 1, 1) := dc_43 (by decide +kernel)
theorem dX9_copyFrom_59 : decode cX9_copyFrom 59 = .ok (.getfield 26, 3) := dc_180 0 26 (by decide +kernel)
theorem dX9_copyFrom_62 : decode cX9_copyFrom 62 = .ok (.iload_n 2, 1) := dc_28 (by decide +kernel)
theorem dX9_copyFrom_63 : decode cX9_copyFrom 63 = .ok (.aaload, 1) := dc_50 (by decide +kernel)
theorem dX9_copyFrom_64 : decode cX9_copyFrom 64 = .ok (.invokevirtual 89, 3) := dc_182 0 89 (by decide +kernel)
theorem kw_5_222 : (Jvm.Cond.methodLink "ParishUnion$Union" (89 : Nat) ({ cls := "ParishUnion$Right", name := "copyFrom", desc := "(LParishUnion$Right;)V" } : Jvm.MethodName)) ∈ gT := gT_of (tb_5 _ (List.mem_of_getElem? (i := 222) rfl)) rfl
theorem kw_5_225 : (Jvm.Cond.code ({ cls := "ParishUnion$Right", name := "copyFrom", desc := "(LParishUnion$Right;)V" } : Jvm.MethodName) prog_10_method_3_code (2 : Nat) (Option.none : Option Jvm.ClassFile.FieldType)) ∈ gT := gT_of (tb_5 _ (List.mem_of_getElem? (i := 225) rfl)) rfl
theorem okX8_copyFrom : gQok yX8_copyFrom cX8_copyFrom 2 (Option.none : Option Jvm.ClassFile.FieldType) 1 := ⟨kw_5_225, kw_1_9, by decide +kernel, by decide +kernel, by decide +kernel⟩
theorem kw_5_223 : (Jvm.Cond.instanceMethod ({ cls := "ParishUnion$Right", name := "copyFrom", desc := "(LParishUnion$Right;)V" } : Jvm.MethodName)) ∈ gT := gT_of (tb_5 _ (List.mem_of_getElem? (i := 223) rfl)) rfl
theorem kw_5_224 : (Jvm.Cond.selects "ParishUnion$Right" ({ cls := "ParishUnion$Right", name := "copyFrom", desc := "(LParishUnion$Right;)V" } : Jvm.MethodName) ({ cls := "ParishUnion$Right", name := "copyFrom", desc := "(LParishUnion$Right;)V" } : Jvm.MethodName)) ∈ gT := gT_of (tb_5 _ (List.mem_of_getElem? (i := 224) rfl)) rfl
theorem dX9_copyFrom_67 : decode cX9_copyFrom 67 = .ok (.iinc 2 1, 3) := dc_132 2 1 1 (by decide +kernel)
theorem dX9_copyFrom_70 : decode cX9_copyFrom 70 = .ok (.goto (-26), 3) := dc_167 255 230 (-26) (by decide +kernel)
theorem dX9_copyFrom_73 : decode cX9_copyFrom 73 = .ok (.iconst 0, 1) := dc_3 (by decide +kernel)
theorem dX9_copyFrom_74 : decode cX9_copyFrom 74 = .ok (.istore_n 2, 1) := dc_61 (by decide +kernel)
theorem dX9_copyFrom_75 : decode cX9_copyFrom 75 = .ok (.iload_n 2, 1) := dc_28 (by decide +kernel)
theorem dX9_copyFrom_76 : decode cX9_copyFrom 76 = .ok (.aload_n 1, 1) := dc_43 (by decide +kernel)
theorem dX9_copyFrom_77 : decode cX9_copyFrom 77 = .ok (.getfield 92, 3) := dc_180 0 92 (by decide +kernel)
theorem dX9_copyFrom_80 : decode cX9_copyFrom 80 = .ok (.if_icmp .ge 24, 3) := dc_162 0 24 24 (by decide +kernel)
theorem dX9_copyFrom_83 : decode cX9_copyFrom 83 = .ok (.aload_n 0, 1) := dc_42 (by decide +kernel)
theorem dX9_copyFrom_84 : decode cX9_copyFrom 84 = .ok (.getfield 32, 3) := dc_180 0 32 (by decide +kernel)
theorem rf_206_3 {sz : Nat} {M : gM} (I : gI sz M) (h : (206 : Int) < (sz : Int)) : M 206 3 = 212 + 1 := gI.rf I (by decide) h (by decide +kernel)
theorem dX9_copyFrom_87 : decode cX9_copyFrom 87 = .ok (.iload_n 2, 1) := dc_28 (by decide +kernel)
theorem dX9_copyFrom_88 : decode cX9_copyFrom 88 = .ok (.aaload, 1) := dc_50 (by decide +kernel)
theorem dX9_copyFrom_89 : decode cX9_copyFrom 89 = .ok (.aload_n 1, 1) := dc_43 (by decide +kernel)
theorem dX9_copyFrom_90 : decode cX9_copyFrom 90 = .ok (.getfield 32, 3) := dc_180 0 32 (by decide +kernel)
theorem dX9_copyFrom_93 : decode cX9_copyFrom 93 = .ok (.iload_n 2, 1) := dc_28 (by decide +kernel)
theorem dX9_copyFrom_94 : decode cX9_copyFrom 94 = .ok (.aaload, 1) := dc_50 (by decide +kernel)
theorem dX9_copyFrom_95 : decode cX9_copyFrom 95 = .ok (.invokevirtual 95, 3) := dc_182 0 95 (by decide +kernel)
theorem kw_5_227 : (Jvm.Cond.methodLink "ParishUnion$Union" (95 : Nat) ({ cls := "ParishUnion$Act", name := "copyFrom", desc := "(LParishUnion$Act;)V" } : Jvm.MethodName)) ∈ gT := gT_of (tb_5 _ (List.mem_of_getElem? (i := 227) rfl)) rfl
theorem kw_5_230 : (Jvm.Cond.code ({ cls := "ParishUnion$Act", name := "copyFrom", desc := "(LParishUnion$Act;)V" } : Jvm.MethodName) prog_2_method_3_code (2 : Nat) (Option.none : Option Jvm.ClassFile.FieldType)) ∈ gT := gT_of (tb_5 _ (List.mem_of_getElem? (i := 230) rfl)) rfl
theorem okX0_copyFrom : gQok yX0_copyFrom cX0_copyFrom 2 (Option.none : Option Jvm.ClassFile.FieldType) 1 := ⟨kw_5_230, kw_1_10, by decide +kernel, by decide +kernel, by decide +kernel⟩
theorem kw_5_228 : (Jvm.Cond.instanceMethod ({ cls := "ParishUnion$Act", name := "copyFrom", desc := "(LParishUnion$Act;)V" } : Jvm.MethodName)) ∈ gT := gT_of (tb_5 _ (List.mem_of_getElem? (i := 228) rfl)) rfl
theorem kw_5_229 : (Jvm.Cond.selects "ParishUnion$Act" ({ cls := "ParishUnion$Act", name := "copyFrom", desc := "(LParishUnion$Act;)V" } : Jvm.MethodName) ({ cls := "ParishUnion$Act", name := "copyFrom", desc := "(LParishUnion$Act;)V" } : Jvm.MethodName)) ∈ gT := gT_of (tb_5 _ (List.mem_of_getElem? (i := 229) rfl)) rfl
theorem dX9_copyFrom_98 : decode cX9_copyFrom 98 = .ok (.iinc 2 1, 3) := dc_132 2 1 1 (by decide +kernel)
theorem dX9_copyFrom_101 : decode cX9_copyFrom 101 = .ok (.goto (-26), 3) := dc_167 255 230 (-26) (by decide +kernel)
theorem dX9_copyFrom_104 : decode cX9_copyFrom 104 = .ok (.aload_n 1, 1) := dc_43 (by decide +kernel)
theorem dX9_copyFrom_105 : decode cX9_copyFrom 105 = .ok (.getfield 36, 3) := dc_180 0 36 (by decide +kernel)
theorem kw_2_114 : (Jvm.Cond.fieldLink "ParishUnion$Union" (36 : Nat) "ParishUnion$Union" "tape" "[B") ∈ gT := gT_of (tb_2 _ (List.mem_of_getElem? (i := 114) rfl)) rfl
theorem dX9_copyFrom_108 : decode cX9_copyFrom 108 = .ok (.iconst 0, 1) := dc_3 (by decide +kernel)
theorem dX9_copyFrom_109 : decode cX9_copyFrom 109 = .ok (.aload_n 0, 1) := dc_42 (by decide +kernel)
theorem dX9_copyFrom_110 : decode cX9_copyFrom 110 = .ok (.getfield 36, 3) := dc_180 0 36 (by decide +kernel)
theorem rf_206_4 {sz : Nat} {M : gM} (I : gI sz M) (h : (206 : Int) < (sz : Int)) : M 206 4 = 213 + 1 := gI.rf I (by decide) h (by decide +kernel)
theorem dX9_copyFrom_113 : decode cX9_copyFrom 113 = .ok (.iconst 0, 1) := dc_3 (by decide +kernel)
theorem dX9_copyFrom_114 : decode cX9_copyFrom 114 = .ok (.sipush 150, 3) := dc_17 0 150 150 (by decide +kernel)
theorem dX9_copyFrom_117 : decode cX9_copyFrom 117 = .ok (.invokestatic 98, 3) := dc_184 0 98 (by decide +kernel)
theorem kw_5_232 : (Jvm.Cond.methodLink "ParishUnion$Union" (98 : Nat) ({ cls := "java/lang/System", name := "arraycopy", desc := "(Ljava/lang/Object;ILjava/lang/Object;II)V" } : Jvm.MethodName)) ∈ gT := gT_of (tb_5 _ (List.mem_of_getElem? (i := 232) rfl)) rfl
theorem ra_213 (k : Int) : gRg 213 k = (-128, 127) ∧ gCr 213 k = false ∧ gG 213 k = 78 := ⟨rfl, rfl, rfl⟩
theorem dX9_copyFrom_120 : decode cX9_copyFrom 120 = .ok (.aload_n 0, 1) := dc_42 (by decide +kernel)
theorem dX9_copyFrom_121 : decode cX9_copyFrom 121 = .ok (.getfield 43, 3) := dc_180 0 43 (by decide +kernel)
theorem kw_2_116 : (Jvm.Cond.fieldLink "ParishUnion$Union" (43 : Nat) "ParishUnion$Union" "orders" "LParishUnion$Orders;") ∈ gT := gT_of (tb_2 _ (List.mem_of_getElem? (i := 116) rfl)) rfl
theorem rf_206_5 {sz : Nat} {M : gM} (I : gI sz M) (h : (206 : Int) < (sz : Int)) : M 206 5 = 214 + 1 := gI.rf I (by decide) h (by decide +kernel)
theorem dX9_copyFrom_124 : decode cX9_copyFrom 124 = .ok (.aload_n 1, 1) := dc_43 (by decide +kernel)
theorem dX9_copyFrom_125 : decode cX9_copyFrom 125 = .ok (.getfield 43, 3) := dc_180 0 43 (by decide +kernel)
theorem dX9_copyFrom_128 : decode cX9_copyFrom 128 = .ok (.invokevirtual 104, 3) := dc_182 0 104 (by decide +kernel)
theorem kw_5_233 : (Jvm.Cond.methodLink "ParishUnion$Union" (104 : Nat) ({ cls := "ParishUnion$Orders", name := "copyFrom", desc := "(LParishUnion$Orders;)V" } : Jvm.MethodName)) ∈ gT := gT_of (tb_5 _ (List.mem_of_getElem? (i := 233) rfl)) rfl
theorem kw_5_236 : (Jvm.Cond.code ({ cls := "ParishUnion$Orders", name := "copyFrom", desc := "(LParishUnion$Orders;)V" } : Jvm.MethodName) prog_6_method_2_code (3 : Nat) (Option.none : Option Jvm.ClassFile.FieldType)) ∈ gT := gT_of (tb_5 _ (List.mem_of_getElem? (i := 236) rfl)) rfl
theorem okX4_copyFrom : gQok yX4_copyFrom cX4_copyFrom 3 (Option.none : Option Jvm.ClassFile.FieldType) 1 := ⟨kw_5_236, kw_1_4, by decide +kernel, by decide +kernel, by decide +kernel⟩
theorem kw_5_234 : (Jvm.Cond.instanceMethod ({ cls := "ParishUnion$Orders", name := "copyFrom", desc := "(LParishUnion$Orders;)V" } : Jvm.MethodName)) ∈ gT := gT_of (tb_5 _ (List.mem_of_getElem? (i := 234) rfl)) rfl
theorem kw_5_235 : (Jvm.Cond.selects "ParishUnion$Orders" ({ cls := "ParishUnion$Orders", name := "copyFrom", desc := "(LParishUnion$Orders;)V" } : Jvm.MethodName) ({ cls := "ParishUnion$Orders", name := "copyFrom", desc := "(LParishUnion$Orders;)V" } : Jvm.MethodName)) ∈ gT := gT_of (tb_5 _ (List.mem_of_getElem? (i := 235) rfl)) rfl
theorem dX9_copyFrom_131 : decode cX9_copyFrom 131 = .ok (.aload_n 0, 1) := dc_42 (by decide +kernel)
theorem dX9_copyFrom_132 : decode cX9_copyFrom 132 = .ok (.getfield 50, 3) := dc_180 0 50 (by decide +kernel)
theorem rf_206_6 {sz : Nat} {M : gM} (I : gI sz M) (h : (206 : Int) < (sz : Int)) : M 206 6 = 220 + 1 := gI.rf I (by decide) h (by decide +kernel)
theorem dX9_copyFrom_135 : decode cX9_copyFrom 135 = .ok (.aload_n 1, 1) := dc_43 (by decide +kernel)
theorem dX9_copyFrom_136 : decode cX9_copyFrom 136 = .ok (.getfield 50, 3) := dc_180 0 50 (by decide +kernel)
theorem dX9_copyFrom_139 : decode cX9_copyFrom 139 = .ok (.invokevirtual 107, 3) := dc_182 0 107 (by decide +kernel)
theorem kw_5_238 : (Jvm.Cond.methodLink "ParishUnion$Union" (107 : Nat) ({ cls := "ParishUnion$House", name := "copyFrom", desc := "(LParishUnion$House;)V" } : Jvm.MethodName)) ∈ gT := gT_of (tb_5 _ (List.mem_of_getElem? (i := 238) rfl)) rfl
theorem dX9_copyFrom_142 : decode cX9_copyFrom 142 = .ok (.aload_n 0, 1) := dc_42 (by decide +kernel)
theorem dX9_copyFrom_143 : decode cX9_copyFrom 143 = .ok (.getfield 57, 3) := dc_180 0 57 (by decide +kernel)
theorem rf_206_7 {sz : Nat} {M : gM} (I : gI sz M) (h : (206 : Int) < (sz : Int)) : M 206 7 = 228 + 1 := gI.rf I (by decide) h (by decide +kernel)
theorem dX9_copyFrom_146 : decode cX9_copyFrom 146 = .ok (.aload_n 1, 1) := dc_43 (by decide +kernel)
theorem dX9_copyFrom_147 : decode cX9_copyFrom 147 = .ok (.getfield 57, 3) := dc_180 0 57 (by decide +kernel)
theorem dX9_copyFrom_150 : decode cX9_copyFrom 150 = .ok (.aload_n 1, 1) := dc_43 (by decide +kernel)
theorem dX9_copyFrom_151 : decode cX9_copyFrom 151 = .ok (.getfield 110, 3) := dc_180 0 110 (by decide +kernel)
theorem dX9_copyFrom_154 : decode cX9_copyFrom 154 = .ok (.invokevirtual 113, 3) := dc_182 0 113 (by decide +kernel)
theorem kw_5_239 : (Jvm.Cond.methodLink "ParishUnion$Union" (113 : Nat) ({ cls := "ParishUnion$Past", name := "copyFrom", desc := "(LParishUnion$Past;I)V" } : Jvm.MethodName)) ∈ gT := gT_of (tb_5 _ (List.mem_of_getElem? (i := 239) rfl)) rfl
theorem kw_6_2 : (Jvm.Cond.code ({ cls := "ParishUnion$Past", name := "copyFrom", desc := "(LParishUnion$Past;I)V" } : Jvm.MethodName) prog_7_method_2_code (3 : Nat) (Option.none : Option Jvm.ClassFile.FieldType)) ∈ gT := gT_of (tb_6 _ (List.mem_of_getElem? (i := 2) rfl)) rfl
theorem okX5_copyFrom : gQok yX5_copyFrom cX5_copyFrom 3 (Option.none : Option Jvm.ClassFile.FieldType) 2 := ⟨kw_6_2, kw_1_6, by decide +kernel, by decide +kernel, by decide +kernel⟩
theorem kw_6_0 : (Jvm.Cond.instanceMethod ({ cls := "ParishUnion$Past", name := "copyFrom", desc := "(LParishUnion$Past;I)V" } : Jvm.MethodName)) ∈ gT := gT_of (tb_6 _ (List.mem_of_getElem? (i := 0) rfl)) rfl
theorem kw_6_1 : (Jvm.Cond.selects "ParishUnion$Past" ({ cls := "ParishUnion$Past", name := "copyFrom", desc := "(LParishUnion$Past;I)V" } : Jvm.MethodName) ({ cls := "ParishUnion$Past", name := "copyFrom", desc := "(LParishUnion$Past;I)V" } : Jvm.MethodName)) ∈ gT := gT_of (tb_6 _ (List.mem_of_getElem? (i := 1) rfl)) rfl
theorem dX9_copyFrom_157 : decode cX9_copyFrom 157 = .ok (.aload_n 0, 1) := dc_42 (by decide +kernel)
theorem dX9_copyFrom_158 : decode cX9_copyFrom 158 = .ok (.getfield 64, 3) := dc_180 0 64 (by decide +kernel)
theorem kw_2_122 : (Jvm.Cond.fieldLink "ParishUnion$Union" (64 : Nat) "ParishUnion$Union" "vagrants" "LParishUnion$Vagrants;") ∈ gT := gT_of (tb_2 _ (List.mem_of_getElem? (i := 122) rfl)) rfl
theorem rf_206_8 {sz : Nat} {M : gM} (I : gI sz M) (h : (206 : Int) < (sz : Int)) : M 206 8 = 231 + 1 := gI.rf I (by decide) h (by decide +kernel)
theorem dX9_copyFrom_161 : decode cX9_copyFrom 161 = .ok (.aload_n 1, 1) := dc_43 (by decide +kernel)
theorem dX9_copyFrom_162 : decode cX9_copyFrom 162 = .ok (.getfield 64, 3) := dc_180 0 64 (by decide +kernel)
theorem dX9_copyFrom_165 : decode cX9_copyFrom 165 = .ok (.invokevirtual 116, 3) := dc_182 0 116 (by decide +kernel)
theorem kw_6_4 : (Jvm.Cond.methodLink "ParishUnion$Union" (116 : Nat) ({ cls := "ParishUnion$Vagrants", name := "copyFrom", desc := "(LParishUnion$Vagrants;)V" } : Jvm.MethodName)) ∈ gT := gT_of (tb_6 _ (List.mem_of_getElem? (i := 4) rfl)) rfl
theorem kw_6_7 : (Jvm.Cond.code ({ cls := "ParishUnion$Vagrants", name := "copyFrom", desc := "(LParishUnion$Vagrants;)V" } : Jvm.MethodName) prog_12_method_2_code (2 : Nat) (Option.none : Option Jvm.ClassFile.FieldType)) ∈ gT := gT_of (tb_6 _ (List.mem_of_getElem? (i := 7) rfl)) rfl
theorem okX10_copyFrom : gQok yX10_copyFrom cX10_copyFrom 2 (Option.none : Option Jvm.ClassFile.FieldType) 1 := ⟨kw_6_7, kw_1_7, by decide +kernel, by decide +kernel, by decide +kernel⟩
theorem kw_6_5 : (Jvm.Cond.instanceMethod ({ cls := "ParishUnion$Vagrants", name := "copyFrom", desc := "(LParishUnion$Vagrants;)V" } : Jvm.MethodName)) ∈ gT := gT_of (tb_6 _ (List.mem_of_getElem? (i := 5) rfl)) rfl
theorem kw_6_6 : (Jvm.Cond.selects "ParishUnion$Vagrants" ({ cls := "ParishUnion$Vagrants", name := "copyFrom", desc := "(LParishUnion$Vagrants;)V" } : Jvm.MethodName) ({ cls := "ParishUnion$Vagrants", name := "copyFrom", desc := "(LParishUnion$Vagrants;)V" } : Jvm.MethodName)) ∈ gT := gT_of (tb_6 _ (List.mem_of_getElem? (i := 6) rfl)) rfl
theorem dX9_copyFrom_168 : decode cX9_copyFrom 168 = .ok (.aload_n 1, 1) := dc_43 (by decide +kernel)
theorem dX9_copyFrom_169 : decode cX9_copyFrom 169 = .ok (.getfield 68, 3) := dc_180 0 68 (by decide +kernel)
theorem kw_2_124 : (Jvm.Cond.fieldLink "ParishUnion$Union" (68 : Nat) "ParishUnion$Union" "rooms" "[I") ∈ gT := gT_of (tb_2 _ (List.mem_of_getElem? (i := 124) rfl)) rfl
theorem dX9_copyFrom_172 : decode cX9_copyFrom 172 = .ok (.iconst 0, 1) := dc_3 (by decide +kernel)
theorem dX9_copyFrom_173 : decode cX9_copyFrom 173 = .ok (.aload_n 0, 1) := dc_42 (by decide +kernel)
theorem dX9_copyFrom_174 : decode cX9_copyFrom 174 = .ok (.getfield 68, 3) := dc_180 0 68 (by decide +kernel)
theorem rf_206_9 {sz : Nat} {M : gM} (I : gI sz M) (h : (206 : Int) < (sz : Int)) : M 206 9 = 235 + 1 := gI.rf I (by decide) h (by decide +kernel)
theorem dX9_copyFrom_177 : decode cX9_copyFrom 177 = .ok (.iconst 0, 1) := dc_3 (by decide +kernel)
theorem dX9_copyFrom_178 : decode cX9_copyFrom 178 = .ok (.iconst 4, 1) := dc_7 (by decide +kernel)
theorem dX9_copyFrom_179 : decode cX9_copyFrom 179 = .ok (.invokestatic 98, 3) := dc_184 0 98 (by decide +kernel)
theorem ra_235 (k : Int) : gRg 235 k = (-2147483648, 2147483647) ∧ gCr 235 k = false ∧ gG 235 k = 83 := ⟨rfl, rfl, rfl⟩
theorem dX9_copyFrom_182 : decode cX9_copyFrom 182 = .ok (.aload_n 0, 1) := dc_42 (by decide +kernel)
theorem dX9_copyFrom_183 : decode cX9_copyFrom 183 = .ok (.aload_n 1, 1) := dc_43 (by decide +kernel)
theorem dX9_copyFrom_184 : decode cX9_copyFrom 184 = .ok (.getfield 79, 3) := dc_180 0 79 (by decide +kernel)
theorem dX9_copyFrom_187 : decode cX9_copyFrom 187 = .ok (.putfield 79, 3) := dc_181 0 79 (by decide +kernel)
theorem dX9_copyFrom_190 : decode cX9_copyFrom 190 = .ok (.aload_n 0, 1) := dc_42 (by decide +kernel)
theorem dX9_copyFrom_191 : decode cX9_copyFrom 191 = .ok (.aload_n 1, 1) := dc_43 (by decide +kernel)
theorem dX9_copyFrom_192 : decode cX9_copyFrom 192 = .ok (.getfield 86, 3) := dc_180 0 86 (by decide +kernel)
theorem dX9_copyFrom_195 : decode cX9_copyFrom 195 = .ok (.putfield 86, 3) := dc_181 0 86 (by decide +kernel)
theorem dX9_copyFrom_198 : decode cX9_copyFrom 198 = .ok (.aload_n 0, 1) := dc_42 (by decide +kernel)
theorem dX9_copyFrom_199 : decode cX9_copyFrom 199 = .ok (.aload_n 1, 1) := dc_43 (by decide +kernel)
theorem dX9_copyFrom_200 : decode cX9_copyFrom 200 = .ok (.getfield 119, 3) := dc_180 0 119 (by decide +kernel)
theorem dX9_copyFrom_203 : decode cX9_copyFrom 203 = .ok (.putfield 119, 3) := dc_181 0 119 (by decide +kernel)
theorem dX9_copyFrom_206 : decode cX9_copyFrom 206 = .ok (.aload_n 0, 1) := dc_42 (by decide +kernel)
theorem dX9_copyFrom_207 : decode cX9_copyFrom 207 = .ok (.aload_n 1, 1) := dc_43 (by decide +kernel)
theorem dX9_copyFrom_208 : decode cX9_copyFrom 208 = .ok (.getfield 92, 3) := dc_180 0 92 (by decide +kernel)
theorem dX9_copyFrom_211 : decode cX9_copyFrom 211 = .ok (.putfield 92, 3) := dc_181 0 92 (by decide +kernel)
theorem dX9_copyFrom_214 : decode cX9_copyFrom 214 = .ok (.aload_n 0, 1) := dc_42 (by decide +kernel)
theorem dX9_copyFrom_215 : decode cX9_copyFrom 215 = .ok (.aload_n 1, 1) := dc_43 (by decide +kernel)
theorem dX9_copyFrom_216 : decode cX9_copyFrom 216 = .ok (.getfield 122, 3) := dc_180 0 122 (by decide +kernel)
theorem kw_2_136 : (Jvm.Cond.fieldLink "ParishUnion$Union" (122 : Nat) "ParishUnion$Union" "tapeSize" "I") ∈ gT := gT_of (tb_2 _ (List.mem_of_getElem? (i := 136) rfl)) rfl
theorem dX9_copyFrom_219 : decode cX9_copyFrom 219 = .ok (.putfield 122, 3) := dc_181 0 122 (by decide +kernel)
theorem dX9_copyFrom_222 : decode cX9_copyFrom 222 = .ok (.aload_n 0, 1) := dc_42 (by decide +kernel)
theorem dX9_copyFrom_223 : decode cX9_copyFrom 223 = .ok (.aload_n 1, 1) := dc_43 (by decide +kernel)
theorem dX9_copyFrom_224 : decode cX9_copyFrom 224 = .ok (.getfield 110, 3) := dc_180 0 110 (by decide +kernel)
theorem dX9_copyFrom_227 : decode cX9_copyFrom 227 = .ok (.putfield 110, 3) := dc_181 0 110 (by decide +kernel)
theorem dX9_copyFrom_230 : decode cX9_copyFrom 230 = .ok (.return_, 1) := dc_177 (by decide +kernel)
abbrev R_s_X9_copyFrom_206_1 : Room := { frames := 6, cells := 0, slots := 0, locals := 165 }
set_option maxRecDepth 100000 in
set_option maxHeartbeats 4000000 in
theorem s_X9_copyFrom_206_1 {l : Launch} {n0 : Nat} {D : va_G} {cA : Nat → ClassId} {M : gM}  {sz : Nat} (hsz : 206 ≤ sz) (I : gI sz M) (C : gC sz M) (hsz8 : sz = 358)  : Met l yX9_copyFrom (gWsOf yX9_copyFrom cX9_copyFrom 3 (Option.none : Option Jvm.ClassFile.FieldType)) R_s_X9_copyFrom_206_1 (gPc n0 D cA [gA n0 206, gA n0 1] M sz) (gQv n0 D cA sz (fun M1 => gI sz M1 ∧ gC sz M1 ∧ gFr 154553610251357748553842688 M M1 ∧ ((∀ b : Int, 0 ≤ b → b < 6 → M1 208 b = M 3 b) ∧ (∀ b : Int, 0 ≤ b → b < 36 → M1 209 b = M 4 b) ∧ (∀ j k : Int, 0 ≤ j → j < M 1 10 → gCp k → M1 (236 + j) k = M (31 + j) k) ∧ (∀ j k : Int, 0 ≤ j → j < M 1 11 → 0 ≤ k ∧ k ≤ 8 → M1 (252 + j) k = M (47 + j) k) ∧ M1 206 10 = M 1 10 ∧ M1 206 11 = M 1 11 ∧ M1 206 12 = M 1 12 ∧ M1 206 13 = M 1 13 ∧ M1 206 14 = M 1 14 ∧ M1 206 15 = M 1 15 ∧ (∀ b : Int, 0 ≤ b → b < 40 → M1 232 b = M 27 b) ∧ (∀ b : Int, 0 ≤ b → b < 40 → M1 233 b = M 28 b) ∧ (∀ b : Int, 0 ≤ b → b < 40 → M1 234 b = M 29 b) ∧ M1 231 3 = M 26 3 ∧ (∀ b : Int, 0 ≤ b → b < 301 → M1 222 b = M 17 b) ∧ M1 220 7 = M 15 7 ∧ M1 220 8 = M 15 8 ∧ M1 220 9 = M 15 9))) 0 0 (fun q => n0 ≤ q) := by
  refine gMetV [gA n0 206, gA n0 1] (by decide) (Nat.le_of_ble_eq_true rfl) ⟨rfl, rfl⟩ ?_
  intro p e s m args below meth cd Q X hq
  have X : gCx p s m args meth cd n0 D cA "ParishUnion$Union" cX9_copyFrom 3 := X
  show G p l e R_s_X9_copyFrom_206_1 s m args below meth cd n0 D cA 3 Q 0 0 M sz 0 [(0, gA n0 206), (1, gA n0 1)] []
  refine g_aload_n (n := 1) X 0 dX9_copyFrom_0 rfl rfl rfl ?_
  refine gg_9_0 (n := 4) (z := 207) X (by decide) (by omega) lay_206 kw_2_104 dX9_copyFrom_1 rfl (rf_206_0 I (by omega)) (by decide) ?_
  refine g_aload_n (n := 5) X 1 dX9_copyFrom_4 rfl rfl rfl ?_
  refine gg_9_0 (n := 8) (z := 2) X (by decide) (gsz hsz (by decide)) lay_1 kw_2_104 dX9_copyFrom_5 rfl (rf_1_0 I (gsz hsz (by decide))) (by decide) ?_
  refine g_callVv (n := 11) (As := [gA n0 2]) (rest := []) (cs1 := 0) (ss1 := 0) X (s_X3_copyFrom_207_2  hsz I C hsz8) okX3_copyFrom kw_5_216 ⟨kw_5_217, kw_5_218⟩ ⟨rfl, rfl⟩ ⟨Nat.le_of_ble_eq_true rfl, Nat.le_of_ble_eq_true rfl⟩ rfl (by decide) (by omega) lay_207 rfl rfl (Nat.le_of_ble_eq_true rfl) ⟨Nat.le_of_ble_eq_true rfl, Nat.le_of_ble_eq_true rfl⟩ rfl rfl dX9_copyFrom_8 rfl (fun M2 P3 => ?_)
  obtain ⟨IM2, CM2, FM2, xM2⟩ := P3
  refine g_iconst (n := 12) X dX9_copyFrom_11 rfl ?_
  refine g_istore_n (n := 13) (L' := [(2, gJ 0), (0, gA n0 206), (1, gA n0 1)]) X dX9_copyFrom_12 rfl (by decide) rfl rfl ?_
  have j6 : ∀ (N35791 : Nat) (v4 : Int) (M5 : gM) , (0 ≤ v4 ∧ v4 ≤ 16) → gI sz M5 → gC sz M5 → gFr 19342813113834066795298816 M2 M5 → (∀ j k : Int, 0 ≤ j → j < v4 → gCp k → M5 (236 + j) k = M (31 + j) k) → (16 - v4).toNat < N35791 → G p l e R_s_X9_copyFrom_206_1 s m args below meth cd n0 D cA 3 Q 0 0 M5 sz 13 [(0, gA n0 206), (1, gA n0 1), (2, gJ v4)] [] := by
    intro N35791; induction N35791 with
    | zero => intro v4 M5 rv4 IM5 CM5 FM5 hp hm35793; exfalso; omega
    | succ N35791 ih35792 =>
      intro v4 M5 rv4 IM5 CM5 FM5 hp hm35793
      refine g_iload_n (n := 14) X 2 dX9_copyFrom_13 rfl rfl rfl ?_
      refine g_aload_n (n := 15) X 1 dX9_copyFrom_14 rfl rfl rfl ?_
      obtain ⟨v35794, hv35794, rv35794⟩ := gRd IM5 (by decide) (gsz hsz (by decide)) rc_1_10.1
      refine gg_9_10 (n := 18) (z := v35794) X (by decide) (gsz hsz (by decide)) lay_1 kw_2_126 dX9_copyFrom_15 rfl hv35794 ?_
      refine g_icmp_ge (n := 21) (tgt := 42) X dX9_copyFrom_18 (by decide) (by omega) (by omega) rfl (fun c35795 => ?_) (fun c35795 => ?_)
      · refine g_iconst (n := 43) X dX9_copyFrom_42 rfl ?_
        refine g_istore_n (n := 44) (L' := [(2, gJ 0), (0, gA n0 206), (1, gA n0 1)]) X dX9_copyFrom_43 rfl (by decide) rfl rfl ?_
        have j35803 : ∀ (N39854 : Nat) (v35801 : Int) (M35802 : gM) , (0 ≤ v35801 ∧ v35801 ≤ 40) → gI sz M35802 → gC sz M35802 → gFr 38685626227668133590597632 M5 M35802 → (∀ j k : Int, 0 ≤ j → j < v35801 → 0 ≤ k ∧ k ≤ 8 → M35802 (252 + j) k = M (47 + j) k) → (40 - v35801).toNat < N39854 → G p l e R_s_X9_copyFrom_206_1 s m args below meth cd n0 D cA 3 Q 0 0 M35802 sz 44 [(0, gA n0 206), (1, gA n0 1), (2, gJ v35801)] [] := by
          intro N39854; induction N39854 with
          | zero => intro v35801 M35802 rv35801 IM35802 CM35802 FM35802 hr hm39856; exfalso; omega
          | succ N39854 ih39855 =>
            intro v35801 M35802 rv35801 IM35802 CM35802 FM35802 hr hm39856
            refine g_iload_n (n := 45) X 2 dX9_copyFrom_44 rfl rfl rfl ?_
            refine g_aload_n (n := 46) X 1 dX9_copyFrom_45 rfl rfl rfl ?_
            obtain ⟨v39857, hv39857, rv39857⟩ := gRd IM35802 (by decide) (gsz hsz (by decide)) rc_1_11.1
            refine gg_9_11 (n := 49) (z := v39857) X (by decide) (gsz hsz (by decide)) lay_1 kw_2_129 dX9_copyFrom_46 rfl hv39857 ?_
            refine g_icmp_ge (n := 52) (tgt := 73) X dX9_copyFrom_49 (by decide) (by omega) (by omega) rfl (fun c39858 => ?_) (fun c39858 => ?_)
            · refine g_iconst (n := 74) X dX9_copyFrom_73 rfl ?_
              refine g_istore_n (n := 75) (L' := [(2, gJ 0), (0, gA n0 206), (1, gA n0 1)]) X dX9_copyFrom_74 rfl (by decide) rfl rfl ?_
              have j39866 : ∀ (N40211 : Nat) (v39864 : Int) (M39865 : gM) , (0 ≤ v39864 ∧ v39864 ≤ 11) → gI sz M39865 → gC sz M39865 → gFr 77371252455336267181195264 M35802 M39865 → (11 - v39864).toNat < N40211 → G p l e R_s_X9_copyFrom_206_1 s m args below meth cd n0 D cA 3 Q 0 0 M39865 sz 75 [(0, gA n0 206), (1, gA n0 1), (2, gJ v39864)] [] := by
                intro N40211; induction N40211 with
                | zero => intro v39864 M39865 rv39864 IM39865 CM39865 FM39865 hm40213; exfalso; omega
                | succ N40211 ih40212 =>
                  intro v39864 M39865 rv39864 IM39865 CM39865 FM39865 hm40213
                  refine g_iload_n (n := 76) X 2 dX9_copyFrom_75 rfl rfl rfl ?_
                  refine g_aload_n (n := 77) X 1 dX9_copyFrom_76 rfl rfl rfl ?_
                  obtain ⟨v40214, hv40214, rv40214⟩ := gRd IM39865 (by decide) (gsz hsz (by decide)) rc_1_13.1
                  refine gg_9_13 (n := 80) (z := v40214) X (by decide) (gsz hsz (by decide)) lay_1 kw_2_134 dX9_copyFrom_77 rfl hv40214 ?_
                  refine g_icmp_ge (n := 83) (tgt := 104) X dX9_copyFrom_80 (by decide) (by omega) (by omega) rfl (fun c40215 => ?_) (fun c40215 => ?_)
                  · refine g_aload_n (n := 105) X 1 dX9_copyFrom_104 rfl rfl rfl ?_
                    refine gg_9_4 (n := 108) (z := 8) X (by decide) (gsz hsz (by decide)) lay_1 kw_2_114 dX9_copyFrom_105 rfl (rf_1_4 IM39865 (gsz hsz (by decide))) (by decide) ?_
                    refine g_iconst (n := 109) X dX9_copyFrom_108 rfl ?_
                    refine g_aload_n (n := 110) X 0 dX9_copyFrom_109 rfl rfl rfl ?_
                    refine gg_9_4 (n := 113) (z := 213) X (by decide) (by omega) lay_206 kw_2_114 dX9_copyFrom_110 rfl (rf_206_4 IM39865 (by omega)) (by decide) ?_
                    refine g_iconst (n := 114) X dX9_copyFrom_113 rfl ?_
                    refine g_sipush (n := 117) X dX9_copyFrom_114 (by decide +kernel) rfl ?_
                    refine g_acopyB (n := 120) X kw_5_232 kw_3_209 kw_3_208 kw_1_16 (by decide) (gsz hsz (by decide)) lay_8 (by decide) (by omega) lay_213 (by omega) (by omega) (by omega) (by omega) (gI.bytes IM39865 (by decide) (gsz hsz (by decide)) (fun _ => rfl)) (Nat.le_of_ble_eq_true rfl) (Nat.le_of_ble_eq_true rfl) dX9_copyFrom_117 rfl ?_
                    refine G.nm (fun M40221 e40222 => ?_)
                    have IM40221 : gI sz M40221 := gI.cpy IM39865 (by decide) (gsz hsz (by decide)) (fun k => ((ra_213 k).1.trans (ra_8 k).1.symm)) e40222
                    have CM40221 : gC sz M40221 := gC.cpy CM39865 (fun k => (ra_213 k).2.1) e40222
                    refine g_aload_n (n := 121) X 0 dX9_copyFrom_120 rfl rfl rfl ?_
                    refine gg_9_5 (n := 124) (z := 214) X (by decide) (by omega) lay_206 kw_2_116 dX9_copyFrom_121 rfl (rf_206_5 IM40221 (by omega)) (by decide) ?_
                    refine g_aload_n (n := 125) X 1 dX9_copyFrom_124 rfl rfl rfl ?_
                    refine gg_9_5 (n := 128) (z := 9) X (by decide) (gsz hsz (by decide)) lay_1 kw_2_116 dX9_copyFrom_125 rfl (rf_1_5 IM40221 (gsz hsz (by decide))) (by decide) ?_
                    refine g_callVv (n := 131) (As := [gA n0 9]) (rest := []) (cs1 := 0) (ss1 := 0) X (s_X4_copyFrom_214_9  hsz IM40221 CM40221 hsz8) okX4_copyFrom kw_5_233 ⟨kw_5_234, kw_5_235⟩ ⟨rfl, rfl⟩ ⟨Nat.le_of_ble_eq_true rfl, Nat.le_of_ble_eq_true rfl⟩ rfl (by decide) (by omega) lay_214 rfl rfl (Nat.le_of_ble_eq_true rfl) ⟨Nat.le_of_ble_eq_true rfl, Nat.le_of_ble_eq_true rfl⟩ rfl rfl dX9_copyFrom_128 rfl (fun M40224 P40225 => ?_)
                    obtain ⟨IM40224, CM40224, FM40224⟩ := P40225
                    refine g_aload_n (n := 132) X 0 dX9_copyFrom_131 rfl rfl rfl ?_
                    refine gg_9_6 (n := 135) (z := 220) X (by decide) (by omega) lay_206 kw_2_118 dX9_copyFrom_132 rfl (rf_206_6 IM40224 (by omega)) (by decide) ?_
                    refine g_aload_n (n := 136) X 1 dX9_copyFrom_135 rfl rfl rfl ?_
                    refine gg_9_6 (n := 139) (z := 15) X (by decide) (gsz hsz (by decide)) lay_1 kw_2_118 dX9_copyFrom_136 rfl (rf_1_6 IM40224 (gsz hsz (by decide))) (by decide) ?_
                    refine g_callVv (n := 142) (As := [gA n0 15]) (rest := []) (cs1 := 0) (ss1 := 0) X (s_X2_copyFrom_220_15  hsz IM40224 CM40224 hsz8) okX2_copyFrom kw_5_238 ⟨kw_5_166, kw_5_167⟩ ⟨rfl, rfl⟩ ⟨Nat.le_of_ble_eq_true rfl, Nat.le_of_ble_eq_true rfl⟩ rfl (by decide) (by omega) lay_220 rfl rfl (Nat.le_of_ble_eq_true rfl) ⟨Nat.le_of_ble_eq_true rfl, Nat.le_of_ble_eq_true rfl⟩ rfl rfl dX9_copyFrom_139 rfl (fun M40227 P40228 => ?_)
                    obtain ⟨IM40227, CM40227, FM40227, xM40227⟩ := P40228
                    refine g_aload_n (n := 143) X 0 dX9_copyFrom_142 rfl rfl rfl ?_
                    refine gg_9_7 (n := 146) (z := 228) X (by decide) (by omega) lay_206 kw_2_120 dX9_copyFrom_143 rfl (rf_206_7 IM40227 (by omega)) (by decide) ?_
                    refine g_aload_n (n := 147) X 1 dX9_copyFrom_146 rfl rfl rfl ?_
                    refine gg_9_7 (n := 150) (z := 23) X (by decide) (gsz hsz (by decide)) lay_1 kw_2_120 dX9_copyFrom_147 rfl (rf_1_7 IM40227 (gsz hsz (by decide))) (by decide) ?_
                    refine g_aload_n (n := 151) X 1 dX9_copyFrom_150 rfl rfl rfl ?_
                    obtain ⟨v40229, hv40229, rv40229⟩ := gRd IM40227 (by decide) (gsz hsz (by decide)) rc_1_15.1
                    refine gg_9_15 (n := 154) (z := v40229) X (by decide) (gsz hsz (by decide)) lay_1 kw_2_138 dX9_copyFrom_151 rfl hv40229 ?_
                    refine g_callVv (n := 157) (As := [gA n0 23, gJ v40229]) (rest := []) (cs1 := 0) (ss1 := 0) X (s_X5_copyFrom_228_23 v40229 (by omega) hsz IM40227 CM40227 hsz8) okX5_copyFrom kw_5_239 ⟨kw_6_0, kw_6_1⟩ ⟨rfl, rfl⟩ ⟨Nat.le_of_ble_eq_true rfl, Nat.le_of_ble_eq_true rfl⟩ rfl (by decide) (by omega) lay_228 rfl rfl (Nat.le_of_ble_eq_true rfl) ⟨Nat.le_of_ble_eq_true rfl, Nat.le_of_ble_eq_true rfl⟩ rfl rfl dX9_copyFrom_154 rfl (fun M40231 P40232 => ?_)
                    obtain ⟨IM40231, CM40231, FM40231⟩ := P40232
                    refine g_aload_n (n := 158) X 0 dX9_copyFrom_157 rfl rfl rfl ?_
                    refine gg_9_8 (n := 161) (z := 231) X (by decide) (by omega) lay_206 kw_2_122 dX9_copyFrom_158 rfl (rf_206_8 IM40231 (by omega)) (by decide) ?_
                    refine g_aload_n (n := 162) X 1 dX9_copyFrom_161 rfl rfl rfl ?_
                    refine gg_9_8 (n := 165) (z := 26) X (by decide) (gsz hsz (by decide)) lay_1 kw_2_122 dX9_copyFrom_162 rfl (rf_1_8 IM40231 (gsz hsz (by decide))) (by decide) ?_
                    refine g_callVv (n := 168) (As := [gA n0 26]) (rest := []) (cs1 := 0) (ss1 := 0) X (s_X10_copyFrom_231_26  hsz IM40231 CM40231 hsz8) okX10_copyFrom kw_6_4 ⟨kw_6_5, kw_6_6⟩ ⟨rfl, rfl⟩ ⟨Nat.le_of_ble_eq_true rfl, Nat.le_of_ble_eq_true rfl⟩ rfl (by decide) (by omega) lay_231 rfl rfl (Nat.le_of_ble_eq_true rfl) ⟨Nat.le_of_ble_eq_true rfl, Nat.le_of_ble_eq_true rfl⟩ rfl rfl dX9_copyFrom_165 rfl (fun M40234 P40235 => ?_)
                    obtain ⟨IM40234, CM40234, FM40234, xM40234⟩ := P40235
                    refine g_aload_n (n := 169) X 1 dX9_copyFrom_168 rfl rfl rfl ?_
                    refine gg_9_9 (n := 172) (z := 30) X (by decide) (gsz hsz (by decide)) lay_1 kw_2_124 dX9_copyFrom_169 rfl (rf_1_9 IM40234 (gsz hsz (by decide))) (by decide) ?_
                    refine g_iconst (n := 173) X dX9_copyFrom_172 rfl ?_
                    refine g_aload_n (n := 174) X 0 dX9_copyFrom_173 rfl rfl rfl ?_
                    refine gg_9_9 (n := 177) (z := 235) X (by decide) (by omega) lay_206 kw_2_124 dX9_copyFrom_174 rfl (rf_206_9 IM40234 (by omega)) (by decide) ?_
                    refine g_iconst (n := 178) X dX9_copyFrom_177 rfl ?_
                    refine g_iconst (n := 179) X dX9_copyFrom_178 rfl ?_
                    refine g_acopyI (n := 182) X kw_5_232 kw_3_209 kw_3_208 kw_1_16 (by decide) (gsz hsz (by decide)) lay_30 (by decide) (by omega) lay_235 (by omega) (by omega) (by omega) (by omega) (Nat.le_of_ble_eq_true rfl) (Nat.le_of_ble_eq_true rfl) dX9_copyFrom_179 rfl ?_
                    refine G.nm (fun M40236 e40237 => ?_)
                    have IM40236 : gI sz M40236 := gI.cpy IM40234 (by decide) (gsz hsz (by decide)) (fun k => ((ra_235 k).1.trans (ra_30 k).1.symm)) e40237
                    have CM40236 : gC sz M40236 := gC.cpy CM40234 (fun k => (ra_235 k).2.1) e40237
                    refine g_aload_n (n := 183) X 0 dX9_copyFrom_182 rfl rfl rfl ?_
                    refine g_aload_n (n := 184) X 1 dX9_copyFrom_183 rfl rfl rfl ?_
                    refine gg_9_10 (n := 187) (z := v35794) X (by decide) (gsz hsz (by decide)) lay_1 kw_2_126 dX9_copyFrom_184 rfl ((congrFun (congrFun e40237 _) _).trans ((gcpy_ne (by omega)).trans ((gFr.at FM40234 rc_1_10.2.2 rfl).trans ((gFr.at FM40231 rc_1_10.2.2 rfl).trans ((gFr.at FM40227 rc_1_10.2.2 rfl).trans ((gFr.at FM40224 rc_1_10.2.2 rfl).trans ((congrFun (congrFun e40222 _) _).trans ((gcpy_ne (by omega)).trans ((gFr.at FM39865 rc_1_10.2.2 rfl).trans ((gFr.at FM35802 rc_1_10.2.2 rfl).trans hv35794)))))))))) ?_
                    refine gp_9_10 (n := 190) X (by decide) (by omega) lay_206 kw_2_126 dX9_copyFrom_187 rfl ?_
                    refine G.nm (fun M40238 e40239 => ?_)
                    have IM40238 : gI sz M40238 := gI.set IM40236 rc_206_10.1 (by omega) e40239
                    have CM40238 : gC sz M40238 := gC.set CM40236 rc_206_10.2.1 e40239
                    refine g_aload_n (n := 191) X 0 dX9_copyFrom_190 rfl rfl rfl ?_
                    refine g_aload_n (n := 192) X 1 dX9_copyFrom_191 rfl rfl rfl ?_
                    refine gg_9_11 (n := 195) (z := v39857) X (by decide) (gsz hsz (by decide)) lay_1 kw_2_129 dX9_copyFrom_192 rfl ((congrFun (congrFun e40239 _) _).trans ((gset_ne (by omega)).trans ((congrFun (congrFun e40237 _) _).trans ((gcpy_ne (by omega)).trans ((gFr.at FM40234 rc_1_11.2.2 rfl).trans ((gFr.at FM40231 rc_1_11.2.2 rfl).trans ((gFr.at FM40227 rc_1_11.2.2 rfl).trans ((gFr.at FM40224 rc_1_11.2.2 rfl).trans ((congrFun (congrFun e40222 _) _).trans ((gcpy_ne (by omega)).trans ((gFr.at FM39865 rc_1_11.2.2 rfl).trans hv39857))))))))))) ?_
                    refine gp_9_11 (n := 198) X (by decide) (by omega) lay_206 kw_2_129 dX9_copyFrom_195 rfl ?_
                    refine G.nm (fun M40240 e40241 => ?_)
                    have IM40240 : gI sz M40240 := gI.set IM40238 rc_206_11.1 (by omega) e40241
                    have CM40240 : gC sz M40240 := gC.set CM40238 rc_206_11.2.1 e40241
                    refine g_aload_n (n := 199) X 0 dX9_copyFrom_198 rfl rfl rfl ?_
                    refine g_aload_n (n := 200) X 1 dX9_copyFrom_199 rfl rfl rfl ?_
                    obtain ⟨v40242, hv40242, rv40242⟩ := gRd IM40240 (by decide) (gsz hsz (by decide)) rc_1_12.1
                    refine gg_9_12 (n := 203) (z := v40242) X (by decide) (gsz hsz (by decide)) lay_1 kw_2_132 dX9_copyFrom_200 rfl hv40242 ?_
                    refine gp_9_12 (n := 206) X (by decide) (by omega) lay_206 kw_2_132 dX9_copyFrom_203 rfl ?_
                    refine G.nm (fun M40243 e40244 => ?_)
                    have IM40243 : gI sz M40243 := gI.set IM40240 rc_206_12.1 (by omega) e40244
                    have CM40243 : gC sz M40243 := gC.set CM40240 rc_206_12.2.1 e40244
                    refine g_aload_n (n := 207) X 0 dX9_copyFrom_206 rfl rfl rfl ?_
                    refine g_aload_n (n := 208) X 1 dX9_copyFrom_207 rfl rfl rfl ?_
                    refine gg_9_13 (n := 211) (z := v40214) X (by decide) (gsz hsz (by decide)) lay_1 kw_2_134 dX9_copyFrom_208 rfl ((congrFun (congrFun e40244 _) _).trans ((gset_ne (by omega)).trans ((congrFun (congrFun e40241 _) _).trans ((gset_ne (by omega)).trans ((congrFun (congrFun e40239 _) _).trans ((gset_ne (by omega)).trans ((congrFun (congrFun e40237 _) _).trans ((gcpy_ne (by omega)).trans ((gFr.at FM40234 rc_1_13.2.2 rfl).trans ((gFr.at FM40231 rc_1_13.2.2 rfl).trans ((gFr.at FM40227 rc_1_13.2.2 rfl).trans ((gFr.at FM40224 rc_1_13.2.2 rfl).trans ((congrFun (congrFun e40222 _) _).trans ((gcpy_ne (by omega)).trans hv40214)))))))))))))) ?_
                    refine gp_9_13 (n := 214) X (by decide) (by omega) lay_206 kw_2_134 dX9_copyFrom_211 rfl ?_
                    refine G.nm (fun M40245 e40246 => ?_)
                    have IM40245 : gI sz M40245 := gI.set IM40243 rc_206_13.1 (by omega) e40246
                    have CM40245 : gC sz M40245 := gC.set CM40243 rc_206_13.2.1 e40246
                    refine g_aload_n (n := 215) X 0 dX9_copyFrom_214 rfl rfl rfl ?_
                    refine g_aload_n (n := 216) X 1 dX9_copyFrom_215 rfl rfl rfl ?_
                    obtain ⟨v40247, hv40247, rv40247⟩ := gRd IM40245 (by decide) (gsz hsz (by decide)) rc_1_14.1
                    refine gg_9_14 (n := 219) (z := v40247) X (by decide) (gsz hsz (by decide)) lay_1 kw_2_136 dX9_copyFrom_216 rfl hv40247 ?_
                    refine gp_9_14 (n := 222) X (by decide) (by omega) lay_206 kw_2_136 dX9_copyFrom_219 rfl ?_
                    refine G.nm (fun M40248 e40249 => ?_)
                    have IM40248 : gI sz M40248 := gI.set IM40245 rc_206_14.1 (by omega) e40249
                    have CM40248 : gC sz M40248 := gC.set CM40245 rc_206_14.2.1 e40249
                    refine g_aload_n (n := 223) X 0 dX9_copyFrom_222 rfl rfl rfl ?_
                    refine g_aload_n (n := 224) X 1 dX9_copyFrom_223 rfl rfl rfl ?_
                    refine gg_9_15 (n := 227) (z := v40229) X (by decide) (gsz hsz (by decide)) lay_1 kw_2_138 dX9_copyFrom_224 rfl ((congrFun (congrFun e40249 _) _).trans ((gset_ne (by omega)).trans ((congrFun (congrFun e40246 _) _).trans ((gset_ne (by omega)).trans ((congrFun (congrFun e40244 _) _).trans ((gset_ne (by omega)).trans ((congrFun (congrFun e40241 _) _).trans ((gset_ne (by omega)).trans ((congrFun (congrFun e40239 _) _).trans ((gset_ne (by omega)).trans ((congrFun (congrFun e40237 _) _).trans ((gcpy_ne (by omega)).trans ((gFr.at FM40234 rc_1_15.2.2 rfl).trans ((gFr.at FM40231 rc_1_15.2.2 rfl).trans hv40229)))))))))))))) ?_
                    refine gp_9_15 (n := 230) X (by decide) (by omega) lay_206 kw_2_138 dX9_copyFrom_227 rfl ?_
                    refine G.nm (fun M40250 e40251 => ?_)
                    have IM40250 : gI sz M40250 := gI.set IM40248 rc_206_15.1 (by omega) e40251
                    have CM40250 : gC sz M40250 := gC.set CM40248 rc_206_15.2.1 e40251
                    exact hq _ _ _ dX9_copyFrom_230 ⟨IM40250, CM40250, (gFr.s (gFr.s (gFr.s (gFr.s (gFr.s (gFr.s (gFr.y (gFr.c (gFr.c (gFr.c (gFr.c (gFr.y (gFr.c (gFr.c (gFr.c (gFr.c gFr.rf FM2 rfl) FM5 rfl) FM35802 rfl) FM39865 rfl) e40222 (fun k => (ra_213 k).2.2) rfl) FM40224 rfl) FM40227 rfl) FM40231 rfl) FM40234 rfl) e40237 (fun k => (ra_235 k).2.2) rfl) e40239 rc_206_10.2.2 rfl) e40241 rc_206_11.2.2 rfl) e40244 rc_206_12.2.2 rfl) e40246 rc_206_13.2.2 rfl) e40249 rc_206_14.2.2 rfl) e40251 rc_206_15.2.2 rfl), ⟨(fun b h0 h1 => ((gFr.at ((gFr.s (gFr.s (gFr.s (gFr.s (gFr.s (gFr.s (gFr.y (gFr.c (gFr.c (gFr.c (gFr.c (gFr.y (gFr.c (gFr.c (gFr.c gFr.rf FM5 rfl) FM35802 rfl) FM39865 rfl) e40222 (fun k => (ra_213 k).2.2) rfl) FM40224 rfl) FM40227 rfl) FM40231 rfl) FM40234 rfl) e40237 (fun k => (ra_235 k).2.2) rfl) e40239 rc_206_10.2.2 rfl) e40241 rc_206_11.2.2 rfl) e40244 rc_206_12.2.2 rfl) e40246 rc_206_13.2.2 rfl) e40249 rc_206_14.2.2 rfl) e40251 rc_206_15.2.2 rfl) : gFr 154478052387631834230423552 M2 M40250) (ra_208 b).2.2 rfl).trans (xM2.1 b h0 h1))), (fun b h0 h1 => ((gFr.at ((gFr.s (gFr.s (gFr.s (gFr.s (gFr.s (gFr.s (gFr.y (gFr.c (gFr.c (gFr.c (gFr.c (gFr.y (gFr.c (gFr.c (gFr.c gFr.rf FM5 rfl) FM35802 rfl) FM39865 rfl) e40222 (fun k => (ra_213 k).2.2) rfl) FM40224 rfl) FM40227 rfl) FM40231 rfl) FM40234 rfl) e40237 (fun k => (ra_235 k).2.2) rfl) e40239 rc_206_10.2.2 rfl) e40241 rc_206_11.2.2 rfl) e40244 rc_206_12.2.2 rfl) e40246 rc_206_13.2.2 rfl) e40249 rc_206_14.2.2 rfl) e40251 rc_206_15.2.2 rfl) : gFr 154478052387631834230423552 M2 M40250) (ra_209 b).2.2 rfl).trans (xM2.2 b h0 h1))), (fun j k h0 h1 hk => (gFr.PI ((gFr.s (gFr.s (gFr.s (gFr.s (gFr.s (gFr.s (gFr.y (gFr.c (gFr.c (gFr.c (gFr.c (gFr.y (gFr.c (gFr.c gFr.rf FM35802 rfl) FM39865 rfl) e40222 (fun k => (ra_213 k).2.2) rfl) FM40224 rfl) FM40227 rfl) FM40231 rfl) FM40234 rfl) e40237 (fun k => (ra_235 k).2.2) rfl) e40239 rc_206_10.2.2 rfl) e40241 rc_206_11.2.2 rfl) e40244 rc_206_12.2.2 rfl) e40246 rc_206_13.2.2 rfl) e40249 rc_206_14.2.2 rfl) e40251 rc_206_15.2.2 rfl) : gFr 135135239273797767435124736 M5 M40250) rfl (by have q1 := hv35794; have q2 := gFr.at ((gFr.c (gFr.c gFr.rf FM2 rfl) FM5 rfl) : gFr 19418370977559981118717952 M M5) rc_1_10.2.2 rfl; omega) k).trans (hp j k h0 (by have q1 := hv35794; have q2 := gFr.at ((gFr.c (gFr.c gFr.rf FM2 rfl) FM5 rfl) : gFr 19418370977559981118717952 M M5) rc_1_10.2.2 rfl; omega) hk)), (fun j k h0 h1 hk => (gFr.RI ((gFr.s (gFr.s (gFr.s (gFr.s (gFr.s (gFr.s (gFr.y (gFr.c (gFr.c (gFr.c (gFr.c (gFr.y (gFr.c gFr.rf FM39865 rfl) e40222 (fun k => (ra_213 k).2.2) rfl) FM40224 rfl) FM40227 rfl) FM40231 rfl) FM40234 rfl) e40237 (fun k => (ra_235 k).2.2) rfl) e40239 rc_206_10.2.2 rfl) e40241 rc_206_11.2.2 rfl) e40244 rc_206_12.2.2 rfl) e40246 rc_206_13.2.2 rfl) e40249 rc_206_14.2.2 rfl) e40251 rc_206_15.2.2 rfl) : gFr 96449613046129633844527104 M35802 M40250) rfl (by have q1 := hv39857; have q2 := gFr.at ((gFr.c (gFr.c (gFr.c gFr.rf FM2 rfl) FM5 rfl) FM35802 rfl) : gFr 58103997205228114709315584 M M35802) rc_1_11.2.2 rfl; omega) k).trans (hr j k h0 (by have q1 := hv39857; have q2 := gFr.at ((gFr.c (gFr.c (gFr.c gFr.rf FM2 rfl) FM5 rfl) FM35802 rfl) : gFr 58103997205228114709315584 M M35802) rc_1_11.2.2 rfl; omega) hk)), (((congrFun (congrFun e40251 _) _).trans ((gset_ne (by omega)).trans ((congrFun (congrFun e40249 _) _).trans ((gset_ne (by omega)).trans ((congrFun (congrFun e40246 _) _).trans ((gset_ne (by omega)).trans ((congrFun (congrFun e40244 _) _).trans ((gset_ne (by omega)).trans ((congrFun (congrFun e40241 _) _).trans ((gset_ne (by omega)).trans ((congrFun (congrFun e40239 _) _).trans (gset_eq _ _ _ _)))))))))))).trans (hv35794.symm.trans (gFr.at ((gFr.c (gFr.c gFr.rf FM2 rfl) FM5 rfl) : gFr 19418370977559981118717952 M M5) rc_1_10.2.2 rfl))), (((congrFun (congrFun e40251 _) _).trans ((gset_ne (by omega)).trans ((congrFun (congrFun e40249 _) _).trans ((gset_ne (by omega)).trans ((congrFun (congrFun e40246 _) _).trans ((gset_ne (by omega)).trans ((congrFun (congrFun e40244 _) _).trans ((gset_ne (by omega)).trans ((congrFun (congrFun e40241 _) _).trans (gset_eq _ _ _ _)))))))))).trans (hv39857.symm.trans (gFr.at ((gFr.c (gFr.c (gFr.c gFr.rf FM2 rfl) FM5 rfl) FM35802 rfl) : gFr 58103997205228114709315584 M M35802) rc_1_11.2.2 rfl))), (((congrFun (congrFun e40251 _) _).trans ((gset_ne (by omega)).trans ((congrFun (congrFun e40249 _) _).trans ((gset_ne (by omega)).trans ((congrFun (congrFun e40246 _) _).trans ((gset_ne (by omega)).trans ((congrFun (congrFun e40244 _) _).trans (gset_eq _ _ _ _)))))))).trans (hv40242.symm.trans (gFr.at ((gFr.s (gFr.s (gFr.y (gFr.c (gFr.c (gFr.c (gFr.c (gFr.y (gFr.c (gFr.c (gFr.c (gFr.c gFr.rf FM2 rfl) FM5 rfl) FM35802 rfl) FM39865 rfl) e40222 (fun k => (ra_213 k).2.2) rfl) FM40224 rfl) FM40227 rfl) FM40231 rfl) FM40234 rfl) e40237 (fun k => (ra_235 k).2.2) rfl) e40239 rc_206_10.2.2 rfl) e40241 rc_206_11.2.2 rfl) : gFr 154553610251357748553842688 M M40240) rc_1_12.2.2 rfl))), (((congrFun (congrFun e40251 _) _).trans ((gset_ne (by omega)).trans ((congrFun (congrFun e40249 _) _).trans ((gset_ne (by omega)).trans ((congrFun (congrFun e40246 _) _).trans (gset_eq _ _ _ _)))))).trans (hv40214.symm.trans (gFr.at ((gFr.c (gFr.c (gFr.c (gFr.c gFr.rf FM2 rfl) FM5 rfl) FM35802 rfl) FM39865 rfl) : gFr 135475249660564381890510848 M M39865) rc_1_13.2.2 rfl))), (((congrFun (congrFun e40251 _) _).trans ((gset_ne (by omega)).trans ((congrFun (congrFun e40249 _) _).trans (gset_eq _ _ _ _)))).trans (hv40247.symm.trans (gFr.at ((gFr.s (gFr.s (gFr.s (gFr.s (gFr.y (gFr.c (gFr.c (gFr.c (gFr.c (gFr.y (gFr.c (gFr.c (gFr.c (gFr.c gFr.rf FM2 rfl) FM5 rfl) FM35802 rfl) FM39865 rfl) e40222 (fun k => (ra_213 k).2.2) rfl) FM40224 rfl) FM40227 rfl) FM40231 rfl) FM40234 rfl) e40237 (fun k => (ra_235 k).2.2) rfl) e40239 rc_206_10.2.2 rfl) e40241 rc_206_11.2.2 rfl) e40244 rc_206_12.2.2 rfl) e40246 rc_206_13.2.2 rfl) : gFr 154553610251357748553842688 M M40245) rc_1_14.2.2 rfl))), (((congrFun (congrFun e40251 _) _).trans (gset_eq _ _ _ _)).trans (hv40229.symm.trans (gFr.at ((gFr.c (gFr.c (gFr.y (gFr.c (gFr.c (gFr.c (gFr.c gFr.rf FM2 rfl) FM5 rfl) FM35802 rfl) FM39865 rfl) e40222 (fun k => (ra_213 k).2.2) rfl) FM40224 rfl) FM40227 rfl) : gFr 137590869844889982946246656 M M40227) rc_1_15.2.2 rfl))), (fun b h0 h1 => ((gFr.at ((gFr.s (gFr.s (gFr.s (gFr.s (gFr.s (gFr.s (gFr.y gFr.rf e40237 (fun k => (ra_235 k).2.2) rfl) e40239 rc_206_10.2.2 rfl) e40241 rc_206_11.2.2 rfl) e40244 rc_206_12.2.2 rfl) e40246 rc_206_13.2.2 rfl) e40249 rc_206_14.2.2 rfl) e40251 rc_206_15.2.2 rfl) : gFr 9709185488779990559358976 M40234 M40250) (ra_232 b).2.2 rfl).trans ((xM40234.1 b h0 h1).trans (gFr.at ((gFr.c (gFr.c (gFr.c (gFr.y (gFr.c (gFr.c (gFr.c (gFr.c gFr.rf FM2 rfl) FM5 rfl) FM35802 rfl) FM39865 rfl) e40222 (fun k => (ra_213 k).2.2) rfl) FM40224 rfl) FM40227 rfl) FM40231 rfl) : gFr 140008721484119241295659008 M M40231) (ra_27 b).2.2 rfl)))), (fun b h0 h1 => ((gFr.at ((gFr.s (gFr.s (gFr.s (gFr.s (gFr.s (gFr.s (gFr.y gFr.rf e40237 (fun k => (ra_235 k).2.2) rfl) e40239 rc_206_10.2.2 rfl) e40241 rc_206_11.2.2 rfl) e40244 rc_206_12.2.2 rfl) e40246 rc_206_13.2.2 rfl) e40249 rc_206_14.2.2 rfl) e40251 rc_206_15.2.2 rfl) : gFr 9709185488779990559358976 M40234 M40250) (ra_233 b).2.2 rfl).trans ((xM40234.2.1 b h0 h1).trans (gFr.at ((gFr.c (gFr.c (gFr.c (gFr.y (gFr.c (gFr.c (gFr.c (gFr.c gFr.rf FM2 rfl) FM5 rfl) FM35802 rfl) FM39865 rfl) e40222 (fun k => (ra_213 k).2.2) rfl) FM40224 rfl) FM40227 rfl) FM40231 rfl) : gFr 140008721484119241295659008 M M40231) (ra_28 b).2.2 rfl)))), (fun b h0 h1 => ((gFr.at ((gFr.s (gFr.s (gFr.s (gFr.s (gFr.s (gFr.s (gFr.y gFr.rf e40237 (fun k => (ra_235 k).2.2) rfl) e40239 rc_206_10.2.2 rfl) e40241 rc_206_11.2.2 rfl) e40244 rc_206_12.2.2 rfl) e40246 rc_206_13.2.2 rfl) e40249 rc_206_14.2.2 rfl) e40251 rc_206_15.2.2 rfl) : gFr 9709185488779990559358976 M40234 M40250) (ra_234 b).2.2 rfl).trans ((xM40234.2.2.1 b h0 h1).trans (gFr.at ((gFr.c (gFr.c (gFr.c (gFr.y (gFr.c (gFr.c (gFr.c (gFr.c gFr.rf FM2 rfl) FM5 rfl) FM35802 rfl) FM39865 rfl) e40222 (fun k => (ra_213 k).2.2) rfl) FM40224 rfl) FM40227 rfl) FM40231 rfl) : gFr 140008721484119241295659008 M M40231) (ra_29 b).2.2 rfl)))), ((gFr.at ((gFr.s (gFr.s (gFr.s (gFr.s (gFr.s (gFr.s (gFr.y gFr.rf e40237 (fun k => (ra_235 k).2.2) rfl) e40239 rc_206_10.2.2 rfl) e40241 rc_206_11.2.2 rfl) e40244 rc_206_12.2.2 rfl) e40246 rc_206_13.2.2 rfl) e40249 rc_206_14.2.2 rfl) e40251 rc_206_15.2.2 rfl) : gFr 9709185488779990559358976 M40234 M40250) rc_231_3.2.2 rfl).trans ((xM40234.2.2.2).trans (gFr.at ((gFr.c (gFr.c (gFr.c (gFr.y (gFr.c (gFr.c (gFr.c (gFr.c gFr.rf FM2 rfl) FM5 rfl) FM35802 rfl) FM39865 rfl) e40222 (fun k => (ra_213 k).2.2) rfl) FM40224 rfl) FM40227 rfl) FM40231 rfl) : gFr 140008721484119241295659008 M M40231) rc_26_3.2.2 rfl))), (fun b h0 h1 => ((gFr.at ((gFr.s (gFr.s (gFr.s (gFr.s (gFr.s (gFr.s (gFr.y (gFr.c (gFr.c gFr.rf FM40231 rfl) FM40234 rfl) e40237 (fun k => (ra_235 k).2.2) rfl) e40239 rc_206_10.2.2 rfl) e40241 rc_206_11.2.2 rfl) e40244 rc_206_12.2.2 rfl) e40246 rc_206_13.2.2 rfl) e40249 rc_206_14.2.2 rfl) e40251 rc_206_15.2.2 rfl) : gFr 16962740406467765607596032 M40227 M40250) (ra_222 b).2.2 rfl).trans ((xM40227.2.1 b h0 h1).trans (gFr.at ((gFr.c (gFr.y (gFr.c (gFr.c (gFr.c (gFr.c gFr.rf FM2 rfl) FM5 rfl) FM35802 rfl) FM39865 rfl) e40222 (fun k => (ra_213 k).2.2) rfl) FM40224 rfl) : gFr 136381944025275353771540480 M M40224) (ra_17 b).2.2 rfl)))), ((gFr.at ((gFr.s (gFr.s (gFr.s (gFr.s (gFr.s (gFr.s (gFr.y (gFr.c (gFr.c gFr.rf FM40231 rfl) FM40234 rfl) e40237 (fun k => (ra_235 k).2.2) rfl) e40239 rc_206_10.2.2 rfl) e40241 rc_206_11.2.2 rfl) e40244 rc_206_12.2.2 rfl) e40246 rc_206_13.2.2 rfl) e40249 rc_206_14.2.2 rfl) e40251 rc_206_15.2.2 rfl) : gFr 16962740406467765607596032 M40227 M40250) rc_220_7.2.2 rfl).trans ((xM40227.2.2.2.2.2.2.2.1).trans (gFr.at ((gFr.c (gFr.y (gFr.c (gFr.c (gFr.c (gFr.c gFr.rf FM2 rfl) FM5 rfl) FM35802 rfl) FM39865 rfl) e40222 (fun k => (ra_213 k).2.2) rfl) FM40224 rfl) : gFr 136381944025275353771540480 M M40224) rc_15_7.2.2 rfl))), ((gFr.at ((gFr.s (gFr.s (gFr.s (gFr.s (gFr.s (gFr.s (gFr.y (gFr.c (gFr.c gFr.rf FM40231 rfl) FM40234 rfl) e40237 (fun k => (ra_235 k).2.2) rfl) e40239 rc_206_10.2.2 rfl) e40241 rc_206_11.2.2 rfl) e40244 rc_206_12.2.2 rfl) e40246 rc_206_13.2.2 rfl) e40249 rc_206_14.2.2 rfl) e40251 rc_206_15.2.2 rfl) : gFr 16962740406467765607596032 M40227 M40250) rc_220_8.2.2 rfl).trans ((xM40227.2.2.2.2.2.2.2.2.1).trans (gFr.at ((gFr.c (gFr.y (gFr.c (gFr.c (gFr.c (gFr.c gFr.rf FM2 rfl) FM5 rfl) FM35802 rfl) FM39865 rfl) e40222 (fun k => (ra_213 k).2.2) rfl) FM40224 rfl) : gFr 136381944025275353771540480 M M40224) rc_15_8.2.2 rfl))), ((gFr.at ((gFr.s (gFr.s (gFr.s (gFr.s (gFr.s (gFr.s (gFr.y (gFr.c (gFr.c gFr.rf FM40231 rfl) FM40234 rfl) e40237 (fun k => (ra_235 k).2.2) rfl) e40239 rc_206_10.2.2 rfl) e40241 rc_206_11.2.2 rfl) e40244 rc_206_12.2.2 rfl) e40246 rc_206_13.2.2 rfl) e40249 rc_206_14.2.2 rfl) e40251 rc_206_15.2.2 rfl) : gFr 16962740406467765607596032 M40227 M40250) rc_220_9.2.2 rfl).trans ((xM40227.2.2.2.2.2.2.2.2.2).trans (gFr.at ((gFr.c (gFr.y (gFr.c (gFr.c (gFr.c (gFr.c gFr.rf FM2 rfl) FM5 rfl) FM35802 rfl) FM39865 rfl) e40222 (fun k => (ra_213 k).2.2) rfl) FM40224 rfl) : gFr 136381944025275353771540480 M M40224) rc_15_9.2.2 rfl)))⟩⟩
                  · refine g_aload_n (n := 84) X 0 dX9_copyFrom_83 rfl rfl rfl ?_
                    refine gg_9_3 (n := 87) (z := 212) X (by decide) (by omega) lay_206 kw_2_112 dX9_copyFrom_84 rfl (rf_206_3 IM39865 (by omega)) (by decide) ?_
                    refine g_iload_n (n := 88) X 2 dX9_copyFrom_87 rfl rfl rfl ?_
                    obtain ⟨o40252, ho40252, ro40252⟩ : ∃ o : Int, o = 292 + 6 * v39864 ∧ (292 ≤ o ∧ o ≤ 352 ∧ (o - 292) % 6 = 0) := ⟨_, rfl, by omega⟩
                    refine g_aald5 (n := 89) (t := o40252) X (by decide) (by omega) lay_212 (by omega) (by omega) (by decide) (gA212 IM39865 hsz8 (by omega) (by omega) (by omega)) (by omega) dX9_copyFrom_88 rfl ?_
                    refine g_aload_n (n := 90) X 1 dX9_copyFrom_89 rfl rfl rfl ?_
                    refine gg_9_3 (n := 93) (z := 7) X (by decide) (gsz hsz (by decide)) lay_1 kw_2_112 dX9_copyFrom_90 rfl (rf_1_3 IM39865 (gsz hsz (by decide))) (by decide) ?_
                    refine g_iload_n (n := 94) X 2 dX9_copyFrom_93 rfl rfl rfl ?_
                    obtain ⟨o40253, ho40253, ro40253⟩ : ∃ o : Int, o = 87 + 6 * v39864 ∧ (87 ≤ o ∧ o ≤ 147 ∧ (o - 87) % 6 = 0) := ⟨_, rfl, by omega⟩
                    refine g_aald5 (n := 95) (t := o40253) X (by decide) (gsz hsz (by decide)) lay_7 (by omega) (by omega) (by decide) (gA7 IM39865 hsz (by omega) (by omega) (by omega)) (by omega) dX9_copyFrom_94 rfl ?_
                    refine g_callVv (n := 98) (As := [gA n0 o40253]) (rest := []) (cs1 := 0) (ss1 := 0) X (s_X0_copyFrom_AI o40252 ro40252 o40253 ro40253 hsz IM39865 CM39865 hsz8 (by omega)) okX0_copyFrom kw_5_227 ⟨kw_5_228, kw_5_229⟩ ⟨rfl, rfl⟩ ⟨Nat.le_of_ble_eq_true rfl, Nat.le_of_ble_eq_true rfl⟩ rfl (AIo0 ro40252) (by omega) (lay2_AI ro40252) rfl rfl (Nat.le_of_ble_eq_true rfl) ⟨Nat.le_of_ble_eq_true rfl, Nat.le_of_ble_eq_true rfl⟩ rfl rfl dX9_copyFrom_95 rfl (fun M40255 P40256 => ?_)
                    obtain ⟨IM40255, CM40255, FM40255⟩ := P40256
                    refine g_iinc (n := 101) (w := v39864 + 1) (L' := [(2, gJ (v39864 + 1)), (0, gA n0 206), (1, gA n0 1)]) X 2 dX9_copyFrom_98 rfl rfl (by decide) rfl rfl ?_
                    refine g_goto (tgt := 75) X dX9_copyFrom_101 (by decide) ?_
                    refine G.sub (L' := [(0, gA n0 206), (1, gA n0 1), (2, gJ (v39864 + 1))]) [1, 2, 0] rfl ?_
                    exact ih40212 (v39864 + 1) M40255 (by omega) IM40255 CM40255 (gFr.c (gFr.c gFr.rf FM39865 rfl) FM40255 rfl) (by omega)
              refine G.sub (L' := [(0, gA n0 206), (1, gA n0 1), (2, gJ 0)]) [1, 2, 0] rfl ?_
              exact j39866 _ 0 M35802 (by omega) IM35802 CM35802 gFr.rf (Nat.lt_succ_self _)
            · refine g_aload_n (n := 53) X 0 dX9_copyFrom_52 rfl rfl rfl ?_
              refine gg_9_2 (n := 56) (z := 211) X (by decide) (by omega) lay_206 kw_2_109 dX9_copyFrom_53 rfl (rf_206_2 IM35802 (by omega)) (by decide) ?_
              refine g_iload_n (n := 57) X 2 dX9_copyFrom_56 rfl rfl rfl ?_
              obtain ⟨o40257, ho40257, ro40257⟩ : ∃ o : Int, o = 252 + v35801 ∧ (252 ≤ o ∧ o < 292) := ⟨_, rfl, by omega⟩
              refine g_aald7 (n := 58) (t := o40257) X (by decide) (by omega) lay_211 (by omega) (by omega) (by decide) (gA211 IM35802 hsz8 (by omega) (by omega) (by omega)) (by omega) dX9_copyFrom_57 rfl ?_
              refine g_aload_n (n := 59) X 1 dX9_copyFrom_58 rfl rfl rfl ?_
              refine gg_9_2 (n := 62) (z := 6) X (by decide) (gsz hsz (by decide)) lay_1 kw_2_109 dX9_copyFrom_59 rfl (rf_1_2 IM35802 (gsz hsz (by decide))) (by decide) ?_
              refine g_iload_n (n := 63) X 2 dX9_copyFrom_62 rfl rfl rfl ?_
              obtain ⟨o40258, ho40258, ro40258⟩ : ∃ o : Int, o = 47 + v35801 ∧ (47 ≤ o ∧ o < 87) := ⟨_, rfl, by omega⟩
              refine g_aald7 (n := 64) (t := o40258) X (by decide) (gsz hsz (by decide)) lay_6 (by omega) (by omega) (by decide) (gA6 IM35802 hsz (by omega) (by omega) (by omega)) (by omega) dX9_copyFrom_63 rfl ?_
              refine g_callVv (n := 67) (As := [gA n0 o40258]) (rest := []) (cs1 := 0) (ss1 := 0) X (s_X8_copyFrom o40257 (Or.inr ⟨ro40257.1, ro40257.2, hsz8⟩) o40258 (Or.inl ro40258) hsz IM35802 CM35802 (by omega)) okX8_copyFrom kw_5_222 ⟨kw_5_223, kw_5_224⟩ ⟨rfl, rfl⟩ ⟨Nat.le_of_ble_eq_true rfl, Nat.le_of_ble_eq_true rfl⟩ rfl (by omega) (by omega) (lay3_Rz (sz := sz) (Or.inr ⟨ro40257.1, ro40257.2, hsz8⟩)) rfl rfl (Nat.le_of_ble_eq_true rfl) ⟨Nat.le_of_ble_eq_true rfl, Nat.le_of_ble_eq_true rfl⟩ rfl rfl dX9_copyFrom_64 rfl (fun M40260 P40261 => ?_)
              obtain ⟨IM40260, CM40260, KM40260, EM40260⟩ := P40261
              have FM40260 : gFr 38685626227668133590597632 M35802 M40260 := gFr.obj KM40260 (gGIR_all ro40257)
              refine g_iinc (n := 70) (w := v35801 + 1) (L' := [(2, gJ (v35801 + 1)), (0, gA n0 206), (1, gA n0 1)]) X 2 dX9_copyFrom_67 rfl rfl (by decide) rfl rfl ?_
              refine g_goto (tgt := 44) X dX9_copyFrom_70 (by decide) ?_
              refine G.sub (L' := [(0, gA n0 206), (1, gA n0 1), (2, gJ (v35801 + 1))]) [1, 2, 0] rfl ?_
              exact ih39855 (v35801 + 1) M40260 (by omega) IM40260 CM40260 (gFr.c (gFr.c gFr.rf FM35802 rfl) FM40260 rfl) (fun j k h0 h1 hk => if g : j = v35801 then (by rw [show 252 + j = o40257 by omega, EM40260 k hk, show 47 + j = o40258 by omega]; exact (gFr.Rt ((gFr.c (gFr.c (gFr.c gFr.rf FM2 rfl) FM5 rfl) FM35802 rfl) : gFr 58103997205228114709315584 M M35802) rfl (by omega) k)) else (by rw [KM40260 (252 + j) k (by omega)]; exact hr j k h0 (by omega) hk)) (by omega)
        refine G.sub (L' := [(0, gA n0 206), (1, gA n0 1), (2, gJ 0)]) [1, 2, 0] rfl ?_
        exact j35803 _ 0 M5 (by omega) IM5 CM5 gFr.rf (fun j k h0 h1 hk => by exfalso; omega) (Nat.lt_succ_self _)
      · refine g_aload_n (n := 22) X 0 dX9_copyFrom_21 rfl rfl rfl ?_
        refine gg_9_1 (n := 25) (z := 210) X (by decide) (by omega) lay_206 kw_2_106 dX9_copyFrom_22 rfl (rf_206_1 IM5 (by omega)) (by decide) ?_
        refine g_iload_n (n := 26) X 2 dX9_copyFrom_25 rfl rfl rfl ?_
        obtain ⟨o40262, ho40262, ro40262⟩ : ∃ o : Int, o = 236 + v4 ∧ (236 ≤ o ∧ o < 252) := ⟨_, rfl, by omega⟩
        refine g_aald6 (n := 27) (t := o40262) X (by decide) (by omega) lay_210 (by omega) (by omega) (by decide) (gA210 IM5 hsz8 (by omega) (by omega) (by omega)) (by omega) dX9_copyFrom_26 rfl ?_
        refine g_aload_n (n := 28) X 1 dX9_copyFrom_27 rfl rfl rfl ?_
        refine gg_9_1 (n := 31) (z := 5) X (by decide) (gsz hsz (by decide)) lay_1 kw_2_106 dX9_copyFrom_28 rfl (rf_1_1 IM5 (gsz hsz (by decide))) (by decide) ?_
        refine g_iload_n (n := 32) X 2 dX9_copyFrom_31 rfl rfl rfl ?_
        obtain ⟨o40263, ho40263, ro40263⟩ : ∃ o : Int, o = 31 + v4 ∧ (31 ≤ o ∧ o < 47) := ⟨_, rfl, by omega⟩
        refine g_aald6 (n := 33) (t := o40263) X (by decide) (gsz hsz (by decide)) lay_5 (by omega) (by omega) (by decide) (gA5 IM5 hsz (by omega) (by omega) (by omega)) (by omega) dX9_copyFrom_32 rfl ?_
        refine g_callVv (n := 36) (As := [gA n0 o40263]) (rest := []) (cs1 := 0) (ss1 := 0) X (s_X6_copyFrom o40262 (Or.inr (Or.inr ⟨ro40262.1, ro40262.2, hsz8⟩)) o40263 (Or.inl ro40263) hsz IM5 CM5 (by omega)) okX6_copyFrom kw_5_221 ⟨kw_5_162, kw_5_163⟩ ⟨rfl, rfl⟩ ⟨Nat.le_of_ble_eq_true rfl, Nat.le_of_ble_eq_true rfl⟩ rfl (by omega) (by omega) (lay3_Pz (sz := sz) (Or.inr (Or.inr ⟨ro40262.1, ro40262.2, hsz8⟩))) rfl rfl (Nat.le_of_ble_eq_true rfl) ⟨Nat.le_of_ble_eq_true rfl, Nat.le_of_ble_eq_true rfl⟩ rfl rfl dX9_copyFrom_33 rfl (fun M40265 P40266 => ?_)
        obtain ⟨IM40265, CM40265, KM40265, EM40265, NM40265⟩ := P40266
        have FM40265 : gFr 19342813113834066795298816 M5 M40265 := gFr.obj KM40265 (gGI_all ro40262)
        refine g_iinc (n := 39) (w := v4 + 1) (L' := [(2, gJ (v4 + 1)), (0, gA n0 206), (1, gA n0 1)]) X 2 dX9_copyFrom_36 rfl rfl (by decide) rfl rfl ?_
        refine g_goto (tgt := 13) X dX9_copyFrom_39 (by decide) ?_
        refine G.sub (L' := [(0, gA n0 206), (1, gA n0 1), (2, gJ (v4 + 1))]) [1, 2, 0] rfl ?_
        exact ih35792 (v4 + 1) M40265 (by omega) IM40265 CM40265 (gFr.c (gFr.c gFr.rf FM5 rfl) FM40265 rfl) (fun j k h0 h1 hk => if g : j = v4 then (by rw [show 236 + j = o40262 by omega, EM40265 k hk, show 31 + j = o40263 by omega]; exact (gFr.P ((gFr.c (gFr.c gFr.rf FM2 rfl) FM5 rfl) : gFr 19418370977559981118717952 M M5) rfl (by omega) k)) else (by rw [KM40265 (236 + j) k (by omega)]; exact hp j k h0 (by omega) hk)) (by omega)
  refine G.sub (L' := [(0, gA n0 206), (1, gA n0 1), (2, gJ 0)]) [1, 2, 0] rfl ?_
  exact j6 _ 0 M2 (by omega) IM2 CM2 gFr.rf (fun j k h0 h1 hk => by exfalso; omega) (Nat.lt_succ_self _)
abbrev R_s_X9_copyFrom_1_206 : Room := { frames := 6, cells := 0, slots := 0, locals := 165 }
set_option maxRecDepth 100000 in
set_option maxHeartbeats 4000000 in
theorem s_X9_copyFrom_1_206 {l : Launch} {n0 : Nat} {D : va_G} {cA : Nat → ClassId} {M : gM}  {sz : Nat} (hsz : 206 ≤ sz) (I : gI sz M) (C : gC sz M) (hsz8 : sz = 358)  : Met l yX9_copyFrom (gWsOf yX9_copyFrom cX9_copyFrom 3 (Option.none : Option Jvm.ClassFile.FieldType)) R_s_X9_copyFrom_1_206 (gPc n0 D cA [gA n0 1, gA n0 206] M sz) (gQv n0 D cA sz (fun M1 => gI sz M1 ∧ gC sz M1 ∧ gFr 1237940039285380274932678654 M M1 ∧ ((∀ b : Int, 0 ≤ b → b < 6 → M1 3 b = M 208 b) ∧ (∀ b : Int, 0 ≤ b → b < 36 → M1 4 b = M 209 b) ∧ (∀ j k : Int, 0 ≤ j → j < M 206 10 → gCp k → M1 (31 + j) k = M (236 + j) k) ∧ (∀ j k : Int, 0 ≤ j → j < M 206 11 → 0 ≤ k ∧ k ≤ 8 → M1 (47 + j) k = M (252 + j) k) ∧ M1 1 10 = M 206 10 ∧ M1 1 11 = M 206 11 ∧ M1 1 12 = M 206 12 ∧ M1 1 13 = M 206 13 ∧ M1 1 14 = M 206 14 ∧ M1 1 15 = M 206 15 ∧ (∀ b : Int, 0 ≤ b → b < 40 → M1 27 b = M 232 b) ∧ (∀ b : Int, 0 ≤ b → b < 40 → M1 28 b = M 233 b) ∧ (∀ b : Int, 0 ≤ b → b < 40 → M1 29 b = M 234 b) ∧ M1 26 3 = M 231 3 ∧ (∀ b : Int, 0 ≤ b → b < 301 → M1 17 b = M 222 b) ∧ M1 15 7 = M 220 7 ∧ M1 15 8 = M 220 8 ∧ M1 15 9 = M 220 9))) 0 0 (fun q => n0 ≤ q) := by
  refine gMetV [gA n0 1, gA n0 206] (by decide) (Nat.le_of_ble_eq_true rfl) ⟨rfl, rfl⟩ ?_
  intro p e s m args below meth cd Q X hq
  have X : gCx p s m args meth cd n0 D cA "ParishUnion$Union" cX9_copyFrom 3 := X
  show G p l e R_s_X9_copyFrom_1_206 s m args below meth cd n0 D cA 3 Q 0 0 M sz 0 [(0, gA n0 1), (1, gA n0 206)] []
  refine g_aload_n (n := 1) X 0 dX9_copyFrom_0 rfl rfl rfl ?_
  refine gg_9_0 (n := 4) (z := 2) X (by decide) (gsz hsz (by decide)) lay_1 kw_2_104 dX9_copyFrom_1 rfl (rf_1_0 I (gsz hsz (by decide))) (by decide) ?_
  refine g_aload_n (n := 5) X 1 dX9_copyFrom_4 rfl rfl rfl ?_
  refine gg_9_0 (n := 8) (z := 207) X (by decide) (by omega) lay_206 kw_2_104 dX9_copyFrom_5 rfl (rf_206_0 I (by omega)) (by decide) ?_
  refine g_callVv (n := 11) (As := [gA n0 207]) (rest := []) (cs1 := 0) (ss1 := 0) X (s_X3_copyFrom_2_207  hsz I C hsz8) okX3_copyFrom kw_5_216 ⟨kw_5_217, kw_5_218⟩ ⟨rfl, rfl⟩ ⟨Nat.le_of_ble_eq_true rfl, Nat.le_of_ble_eq_true rfl⟩ rfl (by decide) (gsz hsz (by decide)) lay_2 rfl rfl (Nat.le_of_ble_eq_true rfl) ⟨Nat.le_of_ble_eq_true rfl, Nat.le_of_ble_eq_true rfl⟩ rfl rfl dX9_copyFrom_8 rfl (fun M2 P3 => ?_)
  obtain ⟨IM2, CM2, FM2, xM2⟩ := P3
  refine g_iconst (n := 12) X dX9_copyFrom_11 rfl ?_
  refine g_istore_n (n := 13) (L' := [(2, gJ 0), (0, gA n0 1), (1, gA n0 206)]) X dX9_copyFrom_12 rfl (by decide) rfl rfl ?_
  have j6 : ∀ (N35791 : Nat) (v4 : Int) (M5 : gM) , (0 ≤ v4 ∧ v4 ≤ 16) → gI sz M5 → gC sz M5 → gFr 120 M2 M5 → (∀ j k : Int, 0 ≤ j → j < v4 → gCp k → M5 (31 + j) k = M (236 + j) k) → (16 - v4).toNat < N35791 → G p l e R_s_X9_copyFrom_1_206 s m args below meth cd n0 D cA 3 Q 0 0 M5 sz 13 [(0, gA n0 1), (1, gA n0 206), (2, gJ v4)] [] := by
    intro N35791; induction N35791 with
    | zero => intro v4 M5 rv4 IM5 CM5 FM5 hp hm35793; exfalso; omega
    | succ N35791 ih35792 =>
      intro v4 M5 rv4 IM5 CM5 FM5 hp hm35793
      refine g_iload_n (n := 14) X 2 dX9_copyFrom_13 rfl rfl rfl ?_
      refine g_aload_n (n := 15) X 1 dX9_copyFrom_14 rfl rfl rfl ?_
      obtain ⟨v35794, hv35794, rv35794⟩ := gRd IM5 (by decide) (by omega) rc_206_10.1
      refine gg_9_10 (n := 18) (z := v35794) X (by decide) (by omega) lay_206 kw_2_126 dX9_copyFrom_15 rfl hv35794 ?_
      refine g_icmp_ge (n := 21) (tgt := 42) X dX9_copyFrom_18 (by decide) (by omega) (by omega) rfl (fun c35795 => ?_) (fun c35795 => ?_)
      · refine g_iconst (n := 43) X dX9_copyFrom_42 rfl ?_
        refine g_istore_n (n := 44) (L' := [(2, gJ 0), (0, gA n0 1), (1, gA n0 206)]) X dX9_copyFrom_43 rfl (by decide) rfl rfl ?_
        have j35803 : ∀ (N39854 : Nat) (v35801 : Int) (M35802 : gM) , (0 ≤ v35801 ∧ v35801 ≤ 40) → gI sz M35802 → gC sz M35802 → gFr 128 M5 M35802 → (∀ j k : Int, 0 ≤ j → j < v35801 → 0 ≤ k ∧ k ≤ 8 → M35802 (47 + j) k = M (252 + j) k) → (40 - v35801).toNat < N39854 → G p l e R_s_X9_copyFrom_1_206 s m args below meth cd n0 D cA 3 Q 0 0 M35802 sz 44 [(0, gA n0 1), (1, gA n0 206), (2, gJ v35801)] [] := by
          intro N39854; induction N39854 with
          | zero => intro v35801 M35802 rv35801 IM35802 CM35802 FM35802 hr hm39856; exfalso; omega
          | succ N39854 ih39855 =>
            intro v35801 M35802 rv35801 IM35802 CM35802 FM35802 hr hm39856
            refine g_iload_n (n := 45) X 2 dX9_copyFrom_44 rfl rfl rfl ?_
            refine g_aload_n (n := 46) X 1 dX9_copyFrom_45 rfl rfl rfl ?_
            obtain ⟨v39857, hv39857, rv39857⟩ := gRd IM35802 (by decide) (by omega) rc_206_11.1
            refine gg_9_11 (n := 49) (z := v39857) X (by decide) (by omega) lay_206 kw_2_129 dX9_copyFrom_46 rfl hv39857 ?_
            refine g_icmp_ge (n := 52) (tgt := 73) X dX9_copyFrom_49 (by decide) (by omega) (by omega) rfl (fun c39858 => ?_) (fun c39858 => ?_)
            · refine g_iconst (n := 74) X dX9_copyFrom_73 rfl ?_
              refine g_istore_n (n := 75) (L' := [(2, gJ 0), (0, gA n0 1), (1, gA n0 206)]) X dX9_copyFrom_74 rfl (by decide) rfl rfl ?_
              have j39866 : ∀ (N40211 : Nat) (v39864 : Int) (M39865 : gM) , (0 ≤ v39864 ∧ v39864 ≤ 11) → gI sz M39865 → gC sz M39865 → gFr 256 M35802 M39865 → (11 - v39864).toNat < N40211 → G p l e R_s_X9_copyFrom_1_206 s m args below meth cd n0 D cA 3 Q 0 0 M39865 sz 75 [(0, gA n0 1), (1, gA n0 206), (2, gJ v39864)] [] := by
                intro N40211; induction N40211 with
                | zero => intro v39864 M39865 rv39864 IM39865 CM39865 FM39865 hm40213; exfalso; omega
                | succ N40211 ih40212 =>
                  intro v39864 M39865 rv39864 IM39865 CM39865 FM39865 hm40213
                  refine g_iload_n (n := 76) X 2 dX9_copyFrom_75 rfl rfl rfl ?_
                  refine g_aload_n (n := 77) X 1 dX9_copyFrom_76 rfl rfl rfl ?_
                  obtain ⟨v40214, hv40214, rv40214⟩ := gRd IM39865 (by decide) (by omega) rc_206_13.1
                  refine gg_9_13 (n := 80) (z := v40214) X (by decide) (by omega) lay_206 kw_2_134 dX9_copyFrom_77 rfl hv40214 ?_
                  refine g_icmp_ge (n := 83) (tgt := 104) X dX9_copyFrom_80 (by decide) (by omega) (by omega) rfl (fun c40215 => ?_) (fun c40215 => ?_)
                  · refine g_aload_n (n := 105) X 1 dX9_copyFrom_104 rfl rfl rfl ?_
                    refine gg_9_4 (n := 108) (z := 213) X (by decide) (by omega) lay_206 kw_2_114 dX9_copyFrom_105 rfl (rf_206_4 IM39865 (by omega)) (by decide) ?_
                    refine g_iconst (n := 109) X dX9_copyFrom_108 rfl ?_
                    refine g_aload_n (n := 110) X 0 dX9_copyFrom_109 rfl rfl rfl ?_
                    refine gg_9_4 (n := 113) (z := 8) X (by decide) (gsz hsz (by decide)) lay_1 kw_2_114 dX9_copyFrom_110 rfl (rf_1_4 IM39865 (gsz hsz (by decide))) (by decide) ?_
                    refine g_iconst (n := 114) X dX9_copyFrom_113 rfl ?_
                    refine g_sipush (n := 117) X dX9_copyFrom_114 (by decide +kernel) rfl ?_
                    refine g_acopyB (n := 120) X kw_5_232 kw_3_209 kw_3_208 kw_1_16 (by decide) (by omega) lay_213 (by decide) (gsz hsz (by decide)) lay_8 (by omega) (by omega) (by omega) (by omega) (gI.bytes IM39865 (by decide) (by omega) (fun _ => rfl)) (Nat.le_of_ble_eq_true rfl) (Nat.le_of_ble_eq_true rfl) dX9_copyFrom_117 rfl ?_
                    refine G.nm (fun M40221 e40222 => ?_)
                    have IM40221 : gI sz M40221 := gI.cpy IM39865 (by decide) (by omega) (fun k => ((ra_8 k).1.trans (ra_213 k).1.symm)) e40222
                    have CM40221 : gC sz M40221 := gC.cpy CM39865 (fun k => (ra_8 k).2.1) e40222
                    refine g_aload_n (n := 121) X 0 dX9_copyFrom_120 rfl rfl rfl ?_
                    refine gg_9_5 (n := 124) (z := 9) X (by decide) (gsz hsz (by decide)) lay_1 kw_2_116 dX9_copyFrom_121 rfl (rf_1_5 IM40221 (gsz hsz (by decide))) (by decide) ?_
                    refine g_aload_n (n := 125) X 1 dX9_copyFrom_124 rfl rfl rfl ?_
                    refine gg_9_5 (n := 128) (z := 214) X (by decide) (by omega) lay_206 kw_2_116 dX9_copyFrom_125 rfl (rf_206_5 IM40221 (by omega)) (by decide) ?_
                    refine g_callVv (n := 131) (As := [gA n0 214]) (rest := []) (cs1 := 0) (ss1 := 0) X (s_X4_copyFrom_9_214  hsz IM40221 CM40221 hsz8) okX4_copyFrom kw_5_233 ⟨kw_5_234, kw_5_235⟩ ⟨rfl, rfl⟩ ⟨Nat.le_of_ble_eq_true rfl, Nat.le_of_ble_eq_true rfl⟩ rfl (by decide) (gsz hsz (by decide)) lay_9 rfl rfl (Nat.le_of_ble_eq_true rfl) ⟨Nat.le_of_ble_eq_true rfl, Nat.le_of_ble_eq_true rfl⟩ rfl rfl dX9_copyFrom_128 rfl (fun M40224 P40225 => ?_)
                    obtain ⟨IM40224, CM40224, FM40224⟩ := P40225
                    refine g_aload_n (n := 132) X 0 dX9_copyFrom_131 rfl rfl rfl ?_
                    refine gg_9_6 (n := 135) (z := 15) X (by decide) (gsz hsz (by decide)) lay_1 kw_2_118 dX9_copyFrom_132 rfl (rf_1_6 IM40224 (gsz hsz (by decide))) (by decide) ?_
                    refine g_aload_n (n := 136) X 1 dX9_copyFrom_135 rfl rfl rfl ?_
                    refine gg_9_6 (n := 139) (z := 220) X (by decide) (by omega) lay_206 kw_2_118 dX9_copyFrom_136 rfl (rf_206_6 IM40224 (by omega)) (by decide) ?_
                    refine g_callVv (n := 142) (As := [gA n0 220]) (rest := []) (cs1 := 0) (ss1 := 0) X (s_X2_copyFrom_15_220  hsz IM40224 CM40224 hsz8) okX2_copyFrom kw_5_238 ⟨kw_5_166, kw_5_167⟩ ⟨rfl, rfl⟩ ⟨Nat.le_of_ble_eq_true rfl, Nat.le_of_ble_eq_true rfl⟩ rfl (by decide) (gsz hsz (by decide)) lay_15 rfl rfl (Nat.le_of_ble_eq_true rfl) ⟨Nat.le_of_ble_eq_true rfl, Nat.le_of_ble_eq_true rfl⟩ rfl rfl dX9_copyFrom_139 rfl (fun M40227 P40228 => ?_)
                    obtain ⟨IM40227, CM40227, FM40227, xM40227⟩ := P40228
                    refine g_aload_n (n := 143) X 0 dX9_copyFrom_142 rfl rfl rfl ?_
                    refine gg_9_7 (n := 146) (z := 23) X (by decide) (gsz hsz (by decide)) lay_1 kw_2_120 dX9_copyFrom_143 rfl (rf_1_7 IM40227 (gsz hsz (by decide))) (by decide) ?_
                    refine g_aload_n (n := 147) X 1 dX9_copyFrom_146 rfl rfl rfl ?_
                    refine gg_9_7 (n := 150) (z := 228) X (by decide) (by omega) lay_206 kw_2_120 dX9_copyFrom_147 rfl (rf_206_7 IM40227 (by omega)) (by decide) ?_
                    refine g_aload_n (n := 151) X 1 dX9_copyFrom_150 rfl rfl rfl ?_
                    obtain ⟨v40229, hv40229, rv40229⟩ := gRd IM40227 (by decide) (by omega) rc_206_15.1
                    refine gg_9_15 (n := 154) (z := v40229) X (by decide) (by omega) lay_206 kw_2_138 dX9_copyFrom_151 rfl hv40229 ?_
                    refine g_callVv (n := 157) (As := [gA n0 228, gJ v40229]) (rest := []) (cs1 := 0) (ss1 := 0) X (s_X5_copyFrom_23_228 v40229 (by omega) hsz IM40227 CM40227 hsz8) okX5_copyFrom kw_5_239 ⟨kw_6_0, kw_6_1⟩ ⟨rfl, rfl⟩ ⟨Nat.le_of_ble_eq_true rfl, Nat.le_of_ble_eq_true rfl⟩ rfl (by decide) (gsz hsz (by decide)) lay_23 rfl rfl (Nat.le_of_ble_eq_true rfl) ⟨Nat.le_of_ble_eq_true rfl, Nat.le_of_ble_eq_true rfl⟩ rfl rfl dX9_copyFrom_154 rfl (fun M40231 P40232 => ?_)
                    obtain ⟨IM40231, CM40231, FM40231⟩ := P40232
                    refine g_aload_n (n := 158) X 0 dX9_copyFrom_157 rfl rfl rfl ?_
                    refine gg_9_8 (n := 161) (z := 26) X (by decide) (gsz hsz (by decide)) lay_1 kw_2_122 dX9_copyFrom_158 rfl (rf_1_8 IM40231 (gsz hsz (by decide))) (by decide) ?_
                    refine g_aload_n (n := 162) X 1 dX9_copyFrom_161 rfl rfl rfl ?_
                    refine gg_9_8 (n := 165) (z := 231) X (by decide) (by omega) lay_206 kw_2_122 dX9_copyFrom_162 rfl (rf_206_8 IM40231 (by omega)) (by decide) ?_
                    refine g_callVv (n := 168) (As := [gA n0 231]) (rest := []) (cs1 := 0) (ss1 := 0) X (s_X10_copyFrom_26_231  hsz IM40231 CM40231 hsz8) okX10_copyFrom kw_6_4 ⟨kw_6_5, kw_6_6⟩ ⟨rfl, rfl⟩ ⟨Nat.le_of_ble_eq_true rfl, Nat.le_of_ble_eq_true rfl⟩ rfl (by decide) (gsz hsz (by decide)) lay_26 rfl rfl (Nat.le_of_ble_eq_true rfl) ⟨Nat.le_of_ble_eq_true rfl, Nat.le_of_ble_eq_true rfl⟩ rfl rfl dX9_copyFrom_165 rfl (fun M40234 P40235 => ?_)
                    obtain ⟨IM40234, CM40234, FM40234, xM40234⟩ := P40235
                    refine g_aload_n (n := 169) X 1 dX9_copyFrom_168 rfl rfl rfl ?_
                    refine gg_9_9 (n := 172) (z := 235) X (by decide) (by omega) lay_206 kw_2_124 dX9_copyFrom_169 rfl (rf_206_9 IM40234 (by omega)) (by decide) ?_
                    refine g_iconst (n := 173) X dX9_copyFrom_172 rfl ?_
                    refine g_aload_n (n := 174) X 0 dX9_copyFrom_173 rfl rfl rfl ?_
                    refine gg_9_9 (n := 177) (z := 30) X (by decide) (gsz hsz (by decide)) lay_1 kw_2_124 dX9_copyFrom_174 rfl (rf_1_9 IM40234 (gsz hsz (by decide))) (by decide) ?_
                    refine g_iconst (n := 178) X dX9_copyFrom_177 rfl ?_
                    refine g_iconst (n := 179) X dX9_copyFrom_178 rfl ?_
                    refine g_acopyI (n := 182) X kw_5_232 kw_3_209 kw_3_208 kw_1_16 (by decide) (by omega) lay_235 (by decide) (gsz hsz (by decide)) lay_30 (by omega) (by omega) (by omega) (by omega) (Nat.le_of_ble_eq_true rfl) (Nat.le_of_ble_eq_true rfl) dX9_copyFrom_179 rfl ?_
                    refine G.nm (fun M40236 e40237 => ?_)
                    have IM40236 : gI sz M40236 := gI.cpy IM40234 (by decide) (by omega) (fun k => ((ra_30 k).1.trans (ra_235 k).1.symm)) e40237
                    have CM40236 : gC sz M40236 := gC.cpy CM40234 (fun k => (ra_30 k).2.1) e40237
                    refine g_aload_n (n := 183) X 0 dX9_copyFrom_182 rfl rfl rfl ?_
                    refine g_aload_n (n := 184) X 1 dX9_copyFrom_183 rfl rfl rfl ?_
                    refine gg_9_10 (n := 187) (z := v35794) X (by decide) (by omega) lay_206 kw_2_126 dX9_copyFrom_184 rfl ((congrFun (congrFun e40237 _) _).trans ((gcpy_ne (by omega)).trans ((gFr.at FM40234 rc_206_10.2.2 rfl).trans ((gFr.at FM40231 rc_206_10.2.2 rfl).trans ((gFr.at FM40227 rc_206_10.2.2 rfl).trans ((gFr.at FM40224 rc_206_10.2.2 rfl).trans ((congrFun (congrFun e40222 _) _).trans ((gcpy_ne (by omega)).trans ((gFr.at FM39865 rc_206_10.2.2 rfl).trans ((gFr.at FM35802 rc_206_10.2.2 rfl).trans hv35794)))))))))) ?_
                    refine gp_9_10 (n := 190) X (by decide) (gsz hsz (by decide)) lay_1 kw_2_126 dX9_copyFrom_187 rfl ?_
                    refine G.nm (fun M40238 e40239 => ?_)
                    have IM40238 : gI sz M40238 := gI.set IM40236 rc_1_10.1 (by omega) e40239
                    have CM40238 : gC sz M40238 := gC.set CM40236 rc_1_10.2.1 e40239
                    refine g_aload_n (n := 191) X 0 dX9_copyFrom_190 rfl rfl rfl ?_
                    refine g_aload_n (n := 192) X 1 dX9_copyFrom_191 rfl rfl rfl ?_
                    refine gg_9_11 (n := 195) (z := v39857) X (by decide) (by omega) lay_206 kw_2_129 dX9_copyFrom_192 rfl ((congrFun (congrFun e40239 _) _).trans ((gset_ne (by omega)).trans ((congrFun (congrFun e40237 _) _).trans ((gcpy_ne (by omega)).trans ((gFr.at FM40234 rc_206_11.2.2 rfl).trans ((gFr.at FM40231 rc_206_11.2.2 rfl).trans ((gFr.at FM40227 rc_206_11.2.2 rfl).trans ((gFr.at FM40224 rc_206_11.2.2 rfl).trans ((congrFun (congrFun e40222 _) _).trans ((gcpy_ne (by omega)).trans ((gFr.at FM39865 rc_206_11.2.2 rfl).trans hv39857))))))))))) ?_
                    refine gp_9_11 (n := 198) X (by decide) (gsz hsz (by decide)) lay_1 kw_2_129 dX9_copyFrom_195 rfl ?_
                    refine G.nm (fun M40240 e40241 => ?_)
                    have IM40240 : gI sz M40240 := gI.set IM40238 rc_1_11.1 (by omega) e40241
                    have CM40240 : gC sz M40240 := gC.set CM40238 rc_1_11.2.1 e40241
                    refine g_aload_n (n := 199) X 0 dX9_copyFrom_198 rfl rfl rfl ?_
                    refine g_aload_n (n := 200) X 1 dX9_copyFrom_199 rfl rfl rfl ?_
                    obtain ⟨v40242, hv40242, rv40242⟩ := gRd IM40240 (by decide) (by omega) rc_206_12.1
                    refine gg_9_12 (n := 203) (z := v40242) X (by decide) (by omega) lay_206 kw_2_132 dX9_copyFrom_200 rfl hv40242 ?_
                    refine gp_9_12 (n := 206) X (by decide) (gsz hsz (by decide)) lay_1 kw_2_132 dX9_copyFrom_203 rfl ?_
                    refine G.nm (fun M40243 e40244 => ?_)
                    have IM40243 : gI sz M40243 := gI.set IM40240 rc_1_12.1 (by omega) e40244
                    have CM40243 : gC sz M40243 := gC.set CM40240 rc_1_12.2.1 e40244
                    refine g_aload_n (n := 207) X 0 dX9_copyFrom_206 rfl rfl rfl ?_
                    refine g_aload_n (n := 208) X 1 dX9_copyFrom_207 rfl rfl rfl ?_
                    refine gg_9_13 (n := 211) (z := v40214) X (by decide) (by omega) lay_206 kw_2_134 dX9_copyFrom_208 rfl ((congrFun (congrFun e40244 _) _).trans ((gset_ne (by omega)).trans ((congrFun (congrFun e40241 _) _).trans ((gset_ne (by omega)).trans ((congrFun (congrFun e40239 _) _).trans ((gset_ne (by omega)).trans ((congrFun (congrFun e40237 _) _).trans ((gcpy_ne (by omega)).trans ((gFr.at FM40234 rc_206_13.2.2 rfl).trans ((gFr.at FM40231 rc_206_13.2.2 rfl).trans ((gFr.at FM40227 rc_206_13.2.2 rfl).trans ((gFr.at FM40224 rc_206_13.2.2 rfl).trans ((congrFun (congrFun e40222 _) _).trans ((gcpy_ne (by omega)).trans hv40214)))))))))))))) ?_
                    refine gp_9_13 (n := 214) X (by decide) (gsz hsz (by decide)) lay_1 kw_2_134 dX9_copyFrom_211 rfl ?_
                    refine G.nm (fun M40245 e40246 => ?_)
                    have IM40245 : gI sz M40245 := gI.set IM40243 rc_1_13.1 (by omega) e40246
                    have CM40245 : gC sz M40245 := gC.set CM40243 rc_1_13.2.1 e40246
                    refine g_aload_n (n := 215) X 0 dX9_copyFrom_214 rfl rfl rfl ?_
                    refine g_aload_n (n := 216) X 1 dX9_copyFrom_215 rfl rfl rfl ?_
                    obtain ⟨v40247, hv40247, rv40247⟩ := gRd IM40245 (by decide) (by omega) rc_206_14.1
                    refine gg_9_14 (n := 219) (z := v40247) X (by decide) (by omega) lay_206 kw_2_136 dX9_copyFrom_216 rfl hv40247 ?_
                    refine gp_9_14 (n := 222) X (by decide) (gsz hsz (by decide)) lay_1 kw_2_136 dX9_copyFrom_219 rfl ?_
                    refine G.nm (fun M40248 e40249 => ?_)
                    have IM40248 : gI sz M40248 := gI.set IM40245 rc_1_14.1 (by omega) e40249
                    have CM40248 : gC sz M40248 := gC.set CM40245 rc_1_14.2.1 e40249
                    refine g_aload_n (n := 223) X 0 dX9_copyFrom_222 rfl rfl rfl ?_
                    refine g_aload_n (n := 224) X 1 dX9_copyFrom_223 rfl rfl rfl ?_
                    refine gg_9_15 (n := 227) (z := v40229) X (by decide) (by omega) lay_206 kw_2_138 dX9_copyFrom_224 rfl ((congrFun (congrFun e40249 _) _).trans ((gset_ne (by omega)).trans ((congrFun (congrFun e40246 _) _).trans ((gset_ne (by omega)).trans ((congrFun (congrFun e40244 _) _).trans ((gset_ne (by omega)).trans ((congrFun (congrFun e40241 _) _).trans ((gset_ne (by omega)).trans ((congrFun (congrFun e40239 _) _).trans ((gset_ne (by omega)).trans ((congrFun (congrFun e40237 _) _).trans ((gcpy_ne (by omega)).trans ((gFr.at FM40234 rc_206_15.2.2 rfl).trans ((gFr.at FM40231 rc_206_15.2.2 rfl).trans hv40229)))))))))))))) ?_
                    refine gp_9_15 (n := 230) X (by decide) (gsz hsz (by decide)) lay_1 kw_2_138 dX9_copyFrom_227 rfl ?_
                    refine G.nm (fun M40250 e40251 => ?_)
                    have IM40250 : gI sz M40250 := gI.set IM40248 rc_1_15.1 (by omega) e40251
                    have CM40250 : gC sz M40250 := gC.set CM40248 rc_1_15.2.1 e40251
                    exact hq _ _ _ dX9_copyFrom_230 ⟨IM40250, CM40250, (gFr.s (gFr.s (gFr.s (gFr.s (gFr.s (gFr.s (gFr.y (gFr.c (gFr.c (gFr.c (gFr.c (gFr.y (gFr.c (gFr.c (gFr.c (gFr.c gFr.rf FM2 rfl) FM5 rfl) FM35802 rfl) FM39865 rfl) e40222 (fun k => (ra_8 k).2.2) rfl) FM40224 rfl) FM40227 rfl) FM40231 rfl) FM40234 rfl) e40237 (fun k => (ra_30 k).2.2) rfl) e40239 rc_1_10.2.2 rfl) e40241 rc_1_11.2.2 rfl) e40244 rc_1_12.2.2 rfl) e40246 rc_1_13.2.2 rfl) e40249 rc_1_14.2.2 rfl) e40251 rc_1_15.2.2 rfl), ⟨(fun b h0 h1 => ((gFr.at ((gFr.s (gFr.s (gFr.s (gFr.s (gFr.s (gFr.s (gFr.y (gFr.c (gFr.c (gFr.c (gFr.c (gFr.y (gFr.c (gFr.c (gFr.c gFr.rf FM5 rfl) FM35802 rfl) FM39865 rfl) e40222 (fun k => (ra_8 k).2.2) rfl) FM40224 rfl) FM40227 rfl) FM40231 rfl) FM40234 rfl) e40237 (fun k => (ra_30 k).2.2) rfl) e40239 rc_1_10.2.2 rfl) e40241 rc_1_11.2.2 rfl) e40244 rc_1_12.2.2 rfl) e40246 rc_1_13.2.2 rfl) e40249 rc_1_14.2.2 rfl) e40251 rc_1_15.2.2 rfl) : gFr 1237940039285380274932678648 M2 M40250) (ra_3 b).2.2 rfl).trans (xM2.1 b h0 h1))), (fun b h0 h1 => ((gFr.at ((gFr.s (gFr.s (gFr.s (gFr.s (gFr.s (gFr.s (gFr.y (gFr.c (gFr.c (gFr.c (gFr.c (gFr.y (gFr.c (gFr.c (gFr.c gFr.rf FM5 rfl) FM35802 rfl) FM39865 rfl) e40222 (fun k => (ra_8 k).2.2) rfl) FM40224 rfl) FM40227 rfl) FM40231 rfl) FM40234 rfl) e40237 (fun k => (ra_30 k).2.2) rfl) e40239 rc_1_10.2.2 rfl) e40241 rc_1_11.2.2 rfl) e40244 rc_1_12.2.2 rfl) e40246 rc_1_13.2.2 rfl) e40249 rc_1_14.2.2 rfl) e40251 rc_1_15.2.2 rfl) : gFr 1237940039285380274932678648 M2 M40250) (ra_4 b).2.2 rfl).trans (xM2.2 b h0 h1))), (fun j k h0 h1 hk => (gFr.P ((gFr.s (gFr.s (gFr.s (gFr.s (gFr.s (gFr.s (gFr.y (gFr.c (gFr.c (gFr.c (gFr.c (gFr.y (gFr.c (gFr.c gFr.rf FM35802 rfl) FM39865 rfl) e40222 (fun k => (ra_8 k).2.2) rfl) FM40224 rfl) FM40227 rfl) FM40231 rfl) FM40234 rfl) e40237 (fun k => (ra_30 k).2.2) rfl) e40239 rc_1_10.2.2 rfl) e40241 rc_1_11.2.2 rfl) e40244 rc_1_12.2.2 rfl) e40246 rc_1_13.2.2 rfl) e40249 rc_1_14.2.2 rfl) e40251 rc_1_15.2.2 rfl) : gFr 1237940039285380274932678528 M5 M40250) rfl (by have q1 := hv35794; have q2 := gFr.at ((gFr.c (gFr.c gFr.rf FM2 rfl) FM5 rfl) : gFr 126 M M5) rc_206_10.2.2 rfl; omega) k).trans (hp j k h0 (by have q1 := hv35794; have q2 := gFr.at ((gFr.c (gFr.c gFr.rf FM2 rfl) FM5 rfl) : gFr 126 M M5) rc_206_10.2.2 rfl; omega) hk)), (fun j k h0 h1 hk => (gFr.Rt ((gFr.s (gFr.s (gFr.s (gFr.s (gFr.s (gFr.s (gFr.y (gFr.c (gFr.c (gFr.c (gFr.c (gFr.y (gFr.c gFr.rf FM39865 rfl) e40222 (fun k => (ra_8 k).2.2) rfl) FM40224 rfl) FM40227 rfl) FM40231 rfl) FM40234 rfl) e40237 (fun k => (ra_30 k).2.2) rfl) e40239 rc_1_10.2.2 rfl) e40241 rc_1_11.2.2 rfl) e40244 rc_1_12.2.2 rfl) e40246 rc_1_13.2.2 rfl) e40249 rc_1_14.2.2 rfl) e40251 rc_1_15.2.2 rfl) : gFr 1237940039285380274932678400 M35802 M40250) rfl (by have q1 := hv39857; have q2 := gFr.at ((gFr.c (gFr.c (gFr.c gFr.rf FM2 rfl) FM5 rfl) FM35802 rfl) : gFr 254 M M35802) rc_206_11.2.2 rfl; omega) k).trans (hr j k h0 (by have q1 := hv39857; have q2 := gFr.at ((gFr.c (gFr.c (gFr.c gFr.rf FM2 rfl) FM5 rfl) FM35802 rfl) : gFr 254 M M35802) rc_206_11.2.2 rfl; omega) hk)), (((congrFun (congrFun e40251 _) _).trans ((gset_ne (by omega)).trans ((congrFun (congrFun e40249 _) _).trans ((gset_ne (by omega)).trans ((congrFun (congrFun e40246 _) _).trans ((gset_ne (by omega)).trans ((congrFun (congrFun e40244 _) _).trans ((gset_ne (by omega)).trans ((congrFun (congrFun e40241 _) _).trans ((gset_ne (by omega)).trans ((congrFun (congrFun e40239 _) _).trans (gset_eq _ _ _ _)))))))))))).trans (hv35794.symm.trans (gFr.at ((gFr.c (gFr.c gFr.rf FM2 rfl) FM5 rfl) : gFr 126 M M5) rc_206_10.2.2 rfl))), (((congrFun (congrFun e40251 _) _).trans ((gset_ne (by omega)).trans ((congrFun (congrFun e40249 _) _).trans ((gset_ne (by omega)).trans ((congrFun (congrFun e40246 _) _).trans ((gset_ne (by omega)).trans ((congrFun (congrFun e40244 _) _).trans ((gset_ne (by omega)).trans ((congrFun (congrFun e40241 _) _).trans (gset_eq _ _ _ _)))))))))).trans (hv39857.symm.trans (gFr.at ((gFr.c (gFr.c (gFr.c gFr.rf FM2 rfl) FM5 rfl) FM35802 rfl) : gFr 254 M M35802) rc_206_11.2.2 rfl))), (((congrFun (congrFun e40251 _) _).trans ((gset_ne (by omega)).trans ((congrFun (congrFun e40249 _) _).trans ((gset_ne (by omega)).trans ((congrFun (congrFun e40246 _) _).trans ((gset_ne (by omega)).trans ((congrFun (congrFun e40244 _) _).trans (gset_eq _ _ _ _)))))))).trans (hv40242.symm.trans (gFr.at ((gFr.s (gFr.s (gFr.y (gFr.c (gFr.c (gFr.c (gFr.c (gFr.y (gFr.c (gFr.c (gFr.c (gFr.c gFr.rf FM2 rfl) FM5 rfl) FM35802 rfl) FM39865 rfl) e40222 (fun k => (ra_8 k).2.2) rfl) FM40224 rfl) FM40227 rfl) FM40231 rfl) FM40234 rfl) e40237 (fun k => (ra_30 k).2.2) rfl) e40239 rc_1_10.2.2 rfl) e40241 rc_1_11.2.2 rfl) : gFr 4194302 M M40240) rc_206_12.2.2 rfl))), (((congrFun (congrFun e40251 _) _).trans ((gset_ne (by omega)).trans ((congrFun (congrFun e40249 _) _).trans ((gset_ne (by omega)).trans ((congrFun (congrFun e40246 _) _).trans (gset_eq _ _ _ _)))))).trans (hv40214.symm.trans (gFr.at ((gFr.c (gFr.c (gFr.c (gFr.c gFr.rf FM2 rfl) FM5 rfl) FM35802 rfl) FM39865 rfl) : gFr 510 M M39865) rc_206_13.2.2 rfl))), (((congrFun (congrFun e40251 _) _).trans ((gset_ne (by omega)).trans ((congrFun (congrFun e40249 _) _).trans (gset_eq _ _ _ _)))).trans (hv40247.symm.trans (gFr.at ((gFr.s (gFr.s (gFr.s (gFr.s (gFr.y (gFr.c (gFr.c (gFr.c (gFr.c (gFr.y (gFr.c (gFr.c (gFr.c (gFr.c gFr.rf FM2 rfl) FM5 rfl) FM35802 rfl) FM39865 rfl) e40222 (fun k => (ra_8 k).2.2) rfl) FM40224 rfl) FM40227 rfl) FM40231 rfl) FM40234 rfl) e40237 (fun k => (ra_30 k).2.2) rfl) e40239 rc_1_10.2.2 rfl) e40241 rc_1_11.2.2 rfl) e40244 rc_1_12.2.2 rfl) e40246 rc_1_13.2.2 rfl) : gFr 1237940039285380274907512830 M M40245) rc_206_14.2.2 rfl))), (((congrFun (congrFun e40251 _) _).trans (gset_eq _ _ _ _)).trans (hv40229.symm.trans (gFr.at ((gFr.c (gFr.c (gFr.y (gFr.c (gFr.c (gFr.c (gFr.c gFr.rf FM2 rfl) FM5 rfl) FM35802 rfl) FM39865 rfl) e40222 (fun k => (ra_8 k).2.2) rfl) FM40224 rfl) FM40227 rfl) : gFr 65534 M M40227) rc_206_15.2.2 rfl))), (fun b h0 h1 => ((gFr.at ((gFr.s (gFr.s (gFr.s (gFr.s (gFr.s (gFr.s (gFr.y gFr.rf e40237 (fun k => (ra_30 k).2.2) rfl) e40239 rc_1_10.2.2 rfl) e40241 rc_1_11.2.2 rfl) e40244 rc_1_12.2.2 rfl) e40246 rc_1_13.2.2 rfl) e40249 rc_1_14.2.2 rfl) e40251 rc_1_15.2.2 rfl) : gFr 1237940039285380274932154368 M40234 M40250) (ra_27 b).2.2 rfl).trans ((xM40234.1 b h0 h1).trans (gFr.at ((gFr.c (gFr.c (gFr.c (gFr.y (gFr.c (gFr.c (gFr.c (gFr.c gFr.rf FM2 rfl) FM5 rfl) FM35802 rfl) FM39865 rfl) e40222 (fun k => (ra_8 k).2.2) rfl) FM40224 rfl) FM40227 rfl) FM40231 rfl) : gFr 131070 M M40231) (ra_232 b).2.2 rfl)))), (fun b h0 h1 => ((gFr.at ((gFr.s (gFr.s (gFr.s (gFr.s (gFr.s (gFr.s (gFr.y gFr.rf e40237 (fun k => (ra_30 k).2.2) rfl) e40239 rc_1_10.2.2 rfl) e40241 rc_1_11.2.2 rfl) e40244 rc_1_12.2.2 rfl) e40246 rc_1_13.2.2 rfl) e40249 rc_1_14.2.2 rfl) e40251 rc_1_15.2.2 rfl) : gFr 1237940039285380274932154368 M40234 M40250) (ra_28 b).2.2 rfl).trans ((xM40234.2.1 b h0 h1).trans (gFr.at ((gFr.c (gFr.c (gFr.c (gFr.y (gFr.c (gFr.c (gFr.c (gFr.c gFr.rf FM2 rfl) FM5 rfl) FM35802 rfl) FM39865 rfl) e40222 (fun k => (ra_8 k).2.2) rfl) FM40224 rfl) FM40227 rfl) FM40231 rfl) : gFr 131070 M M40231) (ra_233 b).2.2 rfl)))), (fun b h0 h1 => ((gFr.at ((gFr.s (gFr.s (gFr.s (gFr.s (gFr.s (gFr.s (gFr.y gFr.rf e40237 (fun k => (ra_30 k).2.2) rfl) e40239 rc_1_10.2.2 rfl) e40241 rc_1_11.2.2 rfl) e40244 rc_1_12.2.2 rfl) e40246 rc_1_13.2.2 rfl) e40249 rc_1_14.2.2 rfl) e40251 rc_1_15.2.2 rfl) : gFr 1237940039285380274932154368 M40234 M40250) (ra_29 b).2.2 rfl).trans ((xM40234.2.2.1 b h0 h1).trans (gFr.at ((gFr.c (gFr.c (gFr.c (gFr.y (gFr.c (gFr.c (gFr.c (gFr.c gFr.rf FM2 rfl) FM5 rfl) FM35802 rfl) FM39865 rfl) e40222 (fun k => (ra_8 k).2.2) rfl) FM40224 rfl) FM40227 rfl) FM40231 rfl) : gFr 131070 M M40231) (ra_234 b).2.2 rfl)))), ((gFr.at ((gFr.s (gFr.s (gFr.s (gFr.s (gFr.s (gFr.s (gFr.y gFr.rf e40237 (fun k => (ra_30 k).2.2) rfl) e40239 rc_1_10.2.2 rfl) e40241 rc_1_11.2.2 rfl) e40244 rc_1_12.2.2 rfl) e40246 rc_1_13.2.2 rfl) e40249 rc_1_14.2.2 rfl) e40251 rc_1_15.2.2 rfl) : gFr 1237940039285380274932154368 M40234 M40250) rc_26_3.2.2 rfl).trans ((xM40234.2.2.2).trans (gFr.at ((gFr.c (gFr.c (gFr.c (gFr.y (gFr.c (gFr.c (gFr.c (gFr.c gFr.rf FM2 rfl) FM5 rfl) FM35802 rfl) FM39865 rfl) e40222 (fun k => (ra_8 k).2.2) rfl) FM40224 rfl) FM40227 rfl) FM40231 rfl) : gFr 131070 M M40231) rc_231_3.2.2 rfl))), (fun b h0 h1 => ((gFr.at ((gFr.s (gFr.s (gFr.s (gFr.s (gFr.s (gFr.s (gFr.y (gFr.c (gFr.c gFr.rf FM40231 rfl) FM40234 rfl) e40237 (fun k => (ra_30 k).2.2) rfl) e40239 rc_1_10.2.2 rfl) e40241 rc_1_11.2.2 rfl) e40244 rc_1_12.2.2 rfl) e40246 rc_1_13.2.2 rfl) e40249 rc_1_14.2.2 rfl) e40251 rc_1_15.2.2 rfl) : gFr 1237940039285380274932613120 M40227 M40250) (ra_17 b).2.2 rfl).trans ((xM40227.2.1 b h0 h1).trans (gFr.at ((gFr.c (gFr.y (gFr.c (gFr.c (gFr.c (gFr.c gFr.rf FM2 rfl) FM5 rfl) FM35802 rfl) FM39865 rfl) e40222 (fun k => (ra_8 k).2.2) rfl) FM40224 rfl) : gFr 2046 M M40224) (ra_222 b).2.2 rfl)))), ((gFr.at ((gFr.s (gFr.s (gFr.s (gFr.s (gFr.s (gFr.s (gFr.y (gFr.c (gFr.c gFr.rf FM40231 rfl) FM40234 rfl) e40237 (fun k => (ra_30 k).2.2) rfl) e40239 rc_1_10.2.2 rfl) e40241 rc_1_11.2.2 rfl) e40244 rc_1_12.2.2 rfl) e40246 rc_1_13.2.2 rfl) e40249 rc_1_14.2.2 rfl) e40251 rc_1_15.2.2 rfl) : gFr 1237940039285380274932613120 M40227 M40250) rc_15_7.2.2 rfl).trans ((xM40227.2.2.2.2.2.2.2.1).trans (gFr.at ((gFr.c (gFr.y (gFr.c (gFr.c (gFr.c (gFr.c gFr.rf FM2 rfl) FM5 rfl) FM35802 rfl) FM39865 rfl) e40222 (fun k => (ra_8 k).2.2) rfl) FM40224 rfl) : gFr 2046 M M40224) rc_220_7.2.2 rfl))), ((gFr.at ((gFr.s (gFr.s (gFr.s (gFr.s (gFr.s (gFr.s (gFr.y (gFr.c (gFr.c gFr.rf FM40231 rfl) FM40234 rfl) e40237 (fun k => (ra_30 k).2.2) rfl) e40239 rc_1_10.2.2 rfl) e40241 rc_1_11.2.2 rfl) e40244 rc_1_12.2.2 rfl) e40246 rc_1_13.2.2 rfl) e40249 rc_1_14.2.2 rfl) e40251 rc_1_15.2.2 rfl) : gFr 1237940039285380274932613120 M40227 M40250) rc_15_8.2.2 rfl).trans ((xM40227.2.2.2.2.2.2.2.2.1).trans (gFr.at ((gFr.c (gFr.y (gFr.c (gFr.c (gFr.c (gFr.c gFr.rf FM2 rfl) FM5 rfl) FM35802 rfl) FM39865 rfl) e40222 (fun k => (ra_8 k).2.2) rfl) FM40224 rfl) : gFr 2046 M M40224) rc_220_8.2.2 rfl))), ((gFr.at ((gFr.s (gFr.s (gFr.s (gFr.s (gFr.s (gFr.s (gFr.y (gFr.c (gFr.c gFr.rf FM40231 rfl) FM40234 rfl) e40237 (fun k => (ra_30 k).2.2) rfl) e40239 rc_1_10.2.2 rfl) e40241 rc_1_11.2.2 rfl) e40244 rc_1_12.2.2 rfl) e40246 rc_1_13.2.2 rfl) e40249 rc_1_14.2.2 rfl) e40251 rc_1_15.2.2 rfl) : gFr 1237940039285380274932613120 M40227 M40250) rc_15_9.2.2 rfl).trans ((xM40227.2.2.2.2.2.2.2.2.2).trans (gFr.at ((gFr.c (gFr.y (gFr.c (gFr.c (gFr.c (gFr.c gFr.rf FM2 rfl) FM5 rfl) FM35802 rfl) FM39865 rfl) e40222 (fun k => (ra_8 k).2.2) rfl) FM40224 rfl) : gFr 2046 M M40224) rc_220_9.2.2 rfl)))⟩⟩
                  · refine g_aload_n (n := 84) X 0 dX9_copyFrom_83 rfl rfl rfl ?_
                    refine gg_9_3 (n := 87) (z := 7) X (by decide) (gsz hsz (by decide)) lay_1 kw_2_112 dX9_copyFrom_84 rfl (rf_1_3 IM39865 (gsz hsz (by decide))) (by decide) ?_
                    refine g_iload_n (n := 88) X 2 dX9_copyFrom_87 rfl rfl rfl ?_
                    obtain ⟨o40252, ho40252, ro40252⟩ : ∃ o : Int, o = 87 + 6 * v39864 ∧ (87 ≤ o ∧ o ≤ 147 ∧ (o - 87) % 6 = 0) := ⟨_, rfl, by omega⟩
                    refine g_aald5 (n := 89) (t := o40252) X (by decide) (gsz hsz (by decide)) lay_7 (by omega) (by omega) (by decide) (gA7 IM39865 hsz (by omega) (by omega) (by omega)) (by omega) dX9_copyFrom_88 rfl ?_
                    refine g_aload_n (n := 90) X 1 dX9_copyFrom_89 rfl rfl rfl ?_
                    refine gg_9_3 (n := 93) (z := 212) X (by decide) (by omega) lay_206 kw_2_112 dX9_copyFrom_90 rfl (rf_206_3 IM39865 (by omega)) (by decide) ?_
                    refine g_iload_n (n := 94) X 2 dX9_copyFrom_93 rfl rfl rfl ?_
                    obtain ⟨o40253, ho40253, ro40253⟩ : ∃ o : Int, o = 292 + 6 * v39864 ∧ (292 ≤ o ∧ o ≤ 352 ∧ (o - 292) % 6 = 0) := ⟨_, rfl, by omega⟩
                    refine g_aald5 (n := 95) (t := o40253) X (by decide) (by omega) lay_212 (by omega) (by omega) (by decide) (gA212 IM39865 hsz8 (by omega) (by omega) (by omega)) (by omega) dX9_copyFrom_94 rfl ?_
                    refine g_callVv (n := 98) (As := [gA n0 o40253]) (rest := []) (cs1 := 0) (ss1 := 0) X (s_X0_copyFrom_A o40252 ro40252 o40253 ro40253 hsz IM39865 CM39865 hsz8 (by omega)) okX0_copyFrom kw_5_227 ⟨kw_5_228, kw_5_229⟩ ⟨rfl, rfl⟩ ⟨Nat.le_of_ble_eq_true rfl, Nat.le_of_ble_eq_true rfl⟩ rfl (Ao0 ro40252) (Aosz hsz ro40252) (lay2_A ro40252) rfl rfl (Nat.le_of_ble_eq_true rfl) ⟨Nat.le_of_ble_eq_true rfl, Nat.le_of_ble_eq_true rfl⟩ rfl rfl dX9_copyFrom_95 rfl (fun M40255 P40256 => ?_)
                    obtain ⟨IM40255, CM40255, FM40255⟩ := P40256
                    refine g_iinc (n := 101) (w := v39864 + 1) (L' := [(2, gJ (v39864 + 1)), (0, gA n0 1), (1, gA n0 206)]) X 2 dX9_copyFrom_98 rfl rfl (by decide) rfl rfl ?_
                    refine g_goto (tgt := 75) X dX9_copyFrom_101 (by decide) ?_
                    refine G.sub (L' := [(0, gA n0 1), (1, gA n0 206), (2, gJ (v39864 + 1))]) [1, 2, 0] rfl ?_
                    exact ih40212 (v39864 + 1) M40255 (by omega) IM40255 CM40255 (gFr.c (gFr.c gFr.rf FM39865 rfl) FM40255 rfl) (by omega)
              refine G.sub (L' := [(0, gA n0 1), (1, gA n0 206), (2, gJ 0)]) [1, 2, 0] rfl ?_
              exact j39866 _ 0 M35802 (by omega) IM35802 CM35802 gFr.rf (Nat.lt_succ_self _)
            · refine g_aload_n (n := 53) X 0 dX9_copyFrom_52 rfl rfl rfl ?_
              refine gg_9_2 (n := 56) (z := 6) X (by decide) (gsz hsz (by decide)) lay_1 kw_2_109 dX9_copyFrom_53 rfl (rf_1_2 IM35802 (gsz hsz (by decide))) (by decide) ?_
              refine g_iload_n (n := 57) X 2 dX9_copyFrom_56 rfl rfl rfl ?_
              obtain ⟨o40257, ho40257, ro40257⟩ : ∃ o : Int, o = 47 + v35801 ∧ (47 ≤ o ∧ o < 87) := ⟨_, rfl, by omega⟩
              refine g_aald7 (n := 58) (t := o40257) X (by decide) (gsz hsz (by decide)) lay_6 (by omega) (by omega) (by decide) (gA6 IM35802 hsz (by omega) (by omega) (by omega)) (by omega) dX9_copyFrom_57 rfl ?_
              refine g_aload_n (n := 59) X 1 dX9_copyFrom_58 rfl rfl rfl ?_
              refine gg_9_2 (n := 62) (z := 211) X (by decide) (by omega) lay_206 kw_2_109 dX9_copyFrom_59 rfl (rf_206_2 IM35802 (by omega)) (by decide) ?_
              refine g_iload_n (n := 63) X 2 dX9_copyFrom_62 rfl rfl rfl ?_
              obtain ⟨o40258, ho40258, ro40258⟩ : ∃ o : Int, o = 252 + v35801 ∧ (252 ≤ o ∧ o < 292) := ⟨_, rfl, by omega⟩
              refine g_aald7 (n := 64) (t := o40258) X (by decide) (by omega) lay_211 (by omega) (by omega) (by decide) (gA211 IM35802 hsz8 (by omega) (by omega) (by omega)) (by omega) dX9_copyFrom_63 rfl ?_
              refine g_callVv (n := 67) (As := [gA n0 o40258]) (rest := []) (cs1 := 0) (ss1 := 0) X (s_X8_copyFrom o40257 (Or.inl ro40257) o40258 (Or.inr ⟨ro40258.1, ro40258.2, hsz8⟩) hsz IM35802 CM35802 (by omega)) okX8_copyFrom kw_5_222 ⟨kw_5_223, kw_5_224⟩ ⟨rfl, rfl⟩ ⟨Nat.le_of_ble_eq_true rfl, Nat.le_of_ble_eq_true rfl⟩ rfl (Rto0 ro40257) (Rtosz hsz ro40257) (lay2_R ro40257) rfl rfl (Nat.le_of_ble_eq_true rfl) ⟨Nat.le_of_ble_eq_true rfl, Nat.le_of_ble_eq_true rfl⟩ rfl rfl dX9_copyFrom_64 rfl (fun M40260 P40261 => ?_)
              obtain ⟨IM40260, CM40260, KM40260, EM40260⟩ := P40261
              have FM40260 : gFr 128 M35802 M40260 := gFr.obj KM40260 (gGR_all ro40257)
              refine g_iinc (n := 70) (w := v35801 + 1) (L' := [(2, gJ (v35801 + 1)), (0, gA n0 1), (1, gA n0 206)]) X 2 dX9_copyFrom_67 rfl rfl (by decide) rfl rfl ?_
              refine g_goto (tgt := 44) X dX9_copyFrom_70 (by decide) ?_
              refine G.sub (L' := [(0, gA n0 1), (1, gA n0 206), (2, gJ (v35801 + 1))]) [1, 2, 0] rfl ?_
              exact ih39855 (v35801 + 1) M40260 (by omega) IM40260 CM40260 (gFr.c (gFr.c gFr.rf FM35802 rfl) FM40260 rfl) (fun j k h0 h1 hk => if g : j = v35801 then (by rw [show 47 + j = o40257 by omega, EM40260 k hk, show 252 + j = o40258 by omega]; exact (gFr.RI ((gFr.c (gFr.c (gFr.c gFr.rf FM2 rfl) FM5 rfl) FM35802 rfl) : gFr 254 M M35802) rfl (by omega) k)) else (by rw [KM40260 (47 + j) k (by omega)]; exact hr j k h0 (by omega) hk)) (by omega)
        refine G.sub (L' := [(0, gA n0 1), (1, gA n0 206), (2, gJ 0)]) [1, 2, 0] rfl ?_
        exact j35803 _ 0 M5 (by omega) IM5 CM5 gFr.rf (fun j k h0 h1 hk => by exfalso; omega) (Nat.lt_succ_self _)
      · refine g_aload_n (n := 22) X 0 dX9_copyFrom_21 rfl rfl rfl ?_
        refine gg_9_1 (n := 25) (z := 5) X (by decide) (gsz hsz (by decide)) lay_1 kw_2_106 dX9_copyFrom_22 rfl (rf_1_1 IM5 (gsz hsz (by decide))) (by decide) ?_
        refine g_iload_n (n := 26) X 2 dX9_copyFrom_25 rfl rfl rfl ?_
        obtain ⟨o40262, ho40262, ro40262⟩ : ∃ o : Int, o = 31 + v4 ∧ (31 ≤ o ∧ o < 47) := ⟨_, rfl, by omega⟩
        refine g_aald6 (n := 27) (t := o40262) X (by decide) (gsz hsz (by decide)) lay_5 (by omega) (by omega) (by decide) (gA5 IM5 hsz (by omega) (by omega) (by omega)) (by omega) dX9_copyFrom_26 rfl ?_
        refine g_aload_n (n := 28) X 1 dX9_copyFrom_27 rfl rfl rfl ?_
        refine gg_9_1 (n := 31) (z := 210) X (by decide) (by omega) lay_206 kw_2_106 dX9_copyFrom_28 rfl (rf_206_1 IM5 (by omega)) (by decide) ?_
        refine g_iload_n (n := 32) X 2 dX9_copyFrom_31 rfl rfl rfl ?_
        obtain ⟨o40263, ho40263, ro40263⟩ : ∃ o : Int, o = 236 + v4 ∧ (236 ≤ o ∧ o < 252) := ⟨_, rfl, by omega⟩
        refine g_aald6 (n := 33) (t := o40263) X (by decide) (by omega) lay_210 (by omega) (by omega) (by decide) (gA210 IM5 hsz8 (by omega) (by omega) (by omega)) (by omega) dX9_copyFrom_32 rfl ?_
        refine g_callVv (n := 36) (As := [gA n0 o40263]) (rest := []) (cs1 := 0) (ss1 := 0) X (s_X6_copyFrom o40262 (Or.inl ro40262) o40263 (Or.inr (Or.inr ⟨ro40263.1, ro40263.2, hsz8⟩)) hsz IM5 CM5 (by omega)) okX6_copyFrom kw_5_221 ⟨kw_5_162, kw_5_163⟩ ⟨rfl, rfl⟩ ⟨Nat.le_of_ble_eq_true rfl, Nat.le_of_ble_eq_true rfl⟩ rfl (Po0 ro40262) (Posz hsz ro40262) (lay2_P ro40262) rfl rfl (Nat.le_of_ble_eq_true rfl) ⟨Nat.le_of_ble_eq_true rfl, Nat.le_of_ble_eq_true rfl⟩ rfl rfl dX9_copyFrom_33 rfl (fun M40265 P40266 => ?_)
        obtain ⟨IM40265, CM40265, KM40265, EM40265, NM40265⟩ := P40266
        have FM40265 : gFr 120 M5 M40265 := gFr.obj KM40265 (gGP_all ro40262)
        refine g_iinc (n := 39) (w := v4 + 1) (L' := [(2, gJ (v4 + 1)), (0, gA n0 1), (1, gA n0 206)]) X 2 dX9_copyFrom_36 rfl rfl (by decide) rfl rfl ?_
        refine g_goto (tgt := 13) X dX9_copyFrom_39 (by decide) ?_
        refine G.sub (L' := [(0, gA n0 1), (1, gA n0 206), (2, gJ (v4 + 1))]) [1, 2, 0] rfl ?_
        exact ih35792 (v4 + 1) M40265 (by omega) IM40265 CM40265 (gFr.c (gFr.c gFr.rf FM5 rfl) FM40265 rfl) (fun j k h0 h1 hk => if g : j = v4 then (by rw [show 31 + j = o40262 by omega, EM40265 k hk, show 236 + j = o40263 by omega]; exact (gFr.PI ((gFr.c (gFr.c gFr.rf FM2 rfl) FM5 rfl) : gFr 126 M M5) rfl (by omega) k)) else (by rw [KM40265 (31 + j) k (by omega)]; exact hp j k h0 (by omega) hk)) (by omega)
  refine G.sub (L' := [(0, gA n0 1), (1, gA n0 206), (2, gJ 0)]) [1, 2, 0] rfl ?_
  exact j6 _ 0 M2 (by omega) IM2 CM2 gFr.rf (fun j k h0 h1 hk => by exfalso; omega) (Nat.lt_succ_self _)
theorem dX11_image_0 : decode cX11_image 0 = .ok (.aload_n 0, 1) := dc_42 (by decide +kernel)
theorem dX11_image_1 : decode cX11_image 1 = .ok (.getfield 416, 3) := dc_180 1 160 (by decide +kernel)
theorem kw_3_0 : (Jvm.Cond.fieldLink "ParishUnion" (416 : Nat) "ParishUnion" "kept" "LParishUnion$Union;") ∈ gT := gT_of (tb_3 _ (List.mem_of_getElem? (i := 0) rfl)) rfl
theorem dX11_image_4 : decode cX11_image 4 = .ok (.ifnonnull 14, 3) := dc_199 0 14 14 (by decide +kernel)
theorem dX11_image_18 : decode cX11_image 18 = .ok (.aload_n 0, 1) := dc_42 (by decide +kernel)
theorem dX11_image_19 : decode cX11_image 19 = .ok (.getfield 416, 3) := dc_180 1 160 (by decide +kernel)
theorem dX11_image_22 : decode cX11_image 22 = .ok (.aload_n 0, 1) := dc_42 (by decide +kernel)
theorem dX11_image_23 : decode cX11_image 23 = .ok (.getfield 10, 3) := dc_180 0 10 (by decide +kernel)
theorem dX11_image_26 : decode cX11_image 26 = .ok (.invokevirtual 419, 3) := dc_182 1 163 (by decide +kernel)
theorem kw_5_212 : (Jvm.Cond.methodLink "ParishUnion" (419 : Nat) ({ cls := "ParishUnion$Union", name := "copyFrom", desc := "(LParishUnion$Union;)V" } : Jvm.MethodName)) ∈ gT := gT_of (tb_5 _ (List.mem_of_getElem? (i := 212) rfl)) rfl
theorem kw_5_215 : (Jvm.Cond.code ({ cls := "ParishUnion$Union", name := "copyFrom", desc := "(LParishUnion$Union;)V" } : Jvm.MethodName) prog_11_method_2_code (3 : Nat) (Option.none : Option Jvm.ClassFile.FieldType)) ∈ gT := gT_of (tb_5 _ (List.mem_of_getElem? (i := 215) rfl)) rfl
theorem okX9_copyFrom : gQok yX9_copyFrom cX9_copyFrom 3 (Option.none : Option Jvm.ClassFile.FieldType) 1 := ⟨kw_5_215, kw_1_2, by decide +kernel, by decide +kernel, by decide +kernel⟩
theorem kw_5_213 : (Jvm.Cond.instanceMethod ({ cls := "ParishUnion$Union", name := "copyFrom", desc := "(LParishUnion$Union;)V" } : Jvm.MethodName)) ∈ gT := gT_of (tb_5 _ (List.mem_of_getElem? (i := 213) rfl)) rfl
theorem kw_5_214 : (Jvm.Cond.selects "ParishUnion$Union" ({ cls := "ParishUnion$Union", name := "copyFrom", desc := "(LParishUnion$Union;)V" } : Jvm.MethodName) ({ cls := "ParishUnion$Union", name := "copyFrom", desc := "(LParishUnion$Union;)V" } : Jvm.MethodName)) ∈ gT := gT_of (tb_5 _ (List.mem_of_getElem? (i := 214) rfl)) rfl
theorem dX11_image_29 : decode cX11_image 29 = .ok (.aload_n 0, 1) := dc_42 (by decide +kernel)
theorem dX11_image_30 : decode cX11_image 30 = .ok (.getfield 10, 3) := dc_180 0 10 (by decide +kernel)
theorem dX11_image_33 : decode cX11_image 33 = .ok (.getfield 85, 3) := dc_180 0 85 (by decide +kernel)
theorem dX11_image_36 : decode cX11_image 36 = .ok (.ireturn, 1) := dc_172 (by decide +kernel)
abbrev R_s_X11_image1 : Room := { frames := 7, cells := 0, slots := 0, locals := 187 }
set_option maxRecDepth 100000 in
set_option maxHeartbeats 4000000 in
theorem s_X11_image1 {l : Launch} {n0 : Nat} {D : va_G} {cA : Nat → ClassId} {M : gM}  {sz : Nat} (hsz : 206 ≤ sz) (I : gI sz M) (C : gC sz M) (hsz8 : sz = 358) (hkept : M 0 9 = 207)  : Met l yX11_image (gWsOf yX11_image cX11_image 1 (Option.some Jvm.ClassFile.FieldType.int)) R_s_X11_image1 (gPc n0 D cA [gA n0 0] M sz) (gQi n0 D cA sz (fun z M1 => (0 ≤ z ∧ z ≤ 300) ∧ gI sz M1 ∧ gC sz M1 ∧ gFr 154553610251357748553842688 M M1 ∧ (z = M 1 15 ∧ (∀ b : Int, 0 ≤ b → b < 6 → M1 208 b = M 3 b) ∧ (∀ b : Int, 0 ≤ b → b < 36 → M1 209 b = M 4 b) ∧ (∀ j k : Int, 0 ≤ j → j < M 1 10 → gCp k → M1 (236 + j) k = M (31 + j) k) ∧ (∀ j k : Int, 0 ≤ j → j < M 1 11 → 0 ≤ k ∧ k ≤ 8 → M1 (252 + j) k = M (47 + j) k) ∧ M1 206 10 = M 1 10 ∧ M1 206 11 = M 1 11 ∧ M1 206 12 = M 1 12 ∧ M1 206 13 = M 1 13 ∧ M1 206 14 = M 1 14 ∧ M1 206 15 = M 1 15 ∧ (∀ b : Int, 0 ≤ b → b < 40 → M1 232 b = M 27 b) ∧ (∀ b : Int, 0 ≤ b → b < 40 → M1 233 b = M 28 b) ∧ (∀ b : Int, 0 ≤ b → b < 40 → M1 234 b = M 29 b) ∧ M1 231 3 = M 26 3 ∧ (∀ b : Int, 0 ≤ b → b < 301 → M1 222 b = M 17 b) ∧ M1 220 7 = M 15 7 ∧ M1 220 8 = M 15 8 ∧ M1 220 9 = M 15 9))) 0 0 (fun q => n0 ≤ q) := by
  refine gMetI [gA n0 0] (by decide) (Nat.le_of_ble_eq_true rfl) ⟨rfl, rfl⟩ ?_
  intro p e s m args below meth cd Q X hq
  have X : gCx p s m args meth cd n0 D cA "ParishUnion" cX11_image 1 := X
  show G p l e R_s_X11_image1 s m args below meth cd n0 D cA 1 Q 0 0 M sz 0 [(0, gA n0 0)] []
  refine g_aload_n (n := 1) X 0 dX11_image_0 rfl rfl rfl ?_
  refine gg_11_9 (n := 4) (z := 206) X (by decide) (gsz hsz (by decide)) lay_0 kw_3_0 dX11_image_1 rfl hkept (by decide) ?_
  refine g_ifnonnull (tgt := 18) X dX11_image_4 (by decide) ?_
  refine g_aload_n (n := 19) X 0 dX11_image_18 rfl rfl rfl ?_
  refine gg_11_9 (n := 22) (z := 206) X (by decide) (gsz hsz (by decide)) lay_0 kw_3_0 dX11_image_19 rfl hkept (by decide) ?_
  refine g_aload_n (n := 23) X 0 dX11_image_22 rfl rfl rfl ?_
  refine gg_11_0 (n := 26) (z := 1) X (by decide) (gsz hsz (by decide)) lay_0 kw_2_231 dX11_image_23 rfl (rf_0_0 I (gsz hsz (by decide))) (by decide) ?_
  refine g_callVv (n := 29) (As := [gA n0 1]) (rest := []) (cs1 := 0) (ss1 := 0) X (s_X9_copyFrom_206_1  hsz I C hsz8) okX9_copyFrom kw_5_212 ⟨kw_5_213, kw_5_214⟩ ⟨rfl, rfl⟩ ⟨Nat.le_of_ble_eq_true rfl, Nat.le_of_ble_eq_true rfl⟩ rfl (by decide) (by omega) lay_206 rfl rfl (Nat.le_of_ble_eq_true rfl) ⟨Nat.le_of_ble_eq_true rfl, Nat.le_of_ble_eq_true rfl⟩ rfl rfl dX11_image_26 rfl (fun M2 P3 => ?_)
  obtain ⟨IM2, CM2, FM2, xM2⟩ := P3
  refine g_aload_n (n := 30) X 0 dX11_image_29 rfl rfl rfl ?_
  refine gg_11_0 (n := 33) (z := 1) X (by decide) (gsz hsz (by decide)) lay_0 kw_2_231 dX11_image_30 rfl (rf_0_0 IM2 (gsz hsz (by decide))) (by decide) ?_
  obtain ⟨v4, hv4, rv4⟩ := gRd IM2 (by decide) (gsz hsz (by decide)) rc_1_15.1
  refine gg_9_15 (n := 36) (z := v4) X (by decide) (gsz hsz (by decide)) lay_1 kw_2_139 dX11_image_33 rfl hv4 ?_
  exact hq _ _ _ _ dX11_image_36 ⟨by omega, IM2, CM2, (gFr.c gFr.rf FM2 rfl), ⟨by have q1 := gFr.at FM2 rc_1_15.2.2 rfl; have q2 := hv4; omega, xM2⟩⟩
theorem dX11_undo_0 : decode cX11_undo 0 = .ok (.aload_n 0, 1) := dc_42 (by decide +kernel)
theorem dX11_undo_1 : decode cX11_undo 1 = .ok (.getfield 416, 3) := dc_180 1 160 (by decide +kernel)
theorem dX11_undo_4 : decode cX11_undo 4 = .ok (.ifnonnull 6, 3) := dc_199 0 6 6 (by decide +kernel)
theorem dX11_undo_10 : decode cX11_undo 10 = .ok (.aload_n 0, 1) := dc_42 (by decide +kernel)
theorem dX11_undo_11 : decode cX11_undo 11 = .ok (.getfield 10, 3) := dc_180 0 10 (by decide +kernel)
theorem dX11_undo_14 : decode cX11_undo 14 = .ok (.aload_n 0, 1) := dc_42 (by decide +kernel)
theorem dX11_undo_15 : decode cX11_undo 15 = .ok (.getfield 416, 3) := dc_180 1 160 (by decide +kernel)
theorem dX11_undo_18 : decode cX11_undo 18 = .ok (.invokevirtual 419, 3) := dc_182 1 163 (by decide +kernel)
theorem dX11_undo_21 : decode cX11_undo 21 = .ok (.aload_n 0, 1) := dc_42 (by decide +kernel)
theorem dX11_undo_22 : decode cX11_undo 22 = .ok (.getfield 10, 3) := dc_180 0 10 (by decide +kernel)
theorem dX11_undo_25 : decode cX11_undo 25 = .ok (.getfield 85, 3) := dc_180 0 85 (by decide +kernel)
theorem dX11_undo_28 : decode cX11_undo 28 = .ok (.ireturn, 1) := dc_172 (by decide +kernel)
abbrev R_s_X11_undo1 : Room := { frames := 7, cells := 0, slots := 0, locals := 187 }
set_option maxRecDepth 100000 in
set_option maxHeartbeats 4000000 in
theorem s_X11_undo1 {l : Launch} {n0 : Nat} {D : va_G} {cA : Nat → ClassId} {M : gM}  {sz : Nat} (hsz : 206 ≤ sz) (I : gI sz M) (C : gC sz M) (hsz8 : sz = 358) (hkept : M 0 9 = 207)  : Met l yX11_undo (gWsOf yX11_undo cX11_undo 1 (Option.some Jvm.ClassFile.FieldType.int)) R_s_X11_undo1 (gPc n0 D cA [gA n0 0] M sz) (gQi n0 D cA sz (fun z M1 => (0 ≤ z ∧ z ≤ 300) ∧ gI sz M1 ∧ gC sz M1 ∧ gFr 1237940039285380274932678654 M M1 ∧ (z = M1 1 15 ∧ (∀ b : Int, 0 ≤ b → b < 6 → M1 3 b = M 208 b) ∧ (∀ b : Int, 0 ≤ b → b < 36 → M1 4 b = M 209 b) ∧ (∀ j k : Int, 0 ≤ j → j < M 206 10 → gCp k → M1 (31 + j) k = M (236 + j) k) ∧ (∀ j k : Int, 0 ≤ j → j < M 206 11 → 0 ≤ k ∧ k ≤ 8 → M1 (47 + j) k = M (252 + j) k) ∧ M1 1 10 = M 206 10 ∧ M1 1 11 = M 206 11 ∧ M1 1 12 = M 206 12 ∧ M1 1 13 = M 206 13 ∧ M1 1 14 = M 206 14 ∧ M1 1 15 = M 206 15 ∧ (∀ b : Int, 0 ≤ b → b < 40 → M1 27 b = M 232 b) ∧ (∀ b : Int, 0 ≤ b → b < 40 → M1 28 b = M 233 b) ∧ (∀ b : Int, 0 ≤ b → b < 40 → M1 29 b = M 234 b) ∧ M1 26 3 = M 231 3 ∧ (∀ b : Int, 0 ≤ b → b < 301 → M1 17 b = M 222 b) ∧ M1 15 7 = M 220 7 ∧ M1 15 8 = M 220 8 ∧ M1 15 9 = M 220 9))) 0 0 (fun q => n0 ≤ q) := by
  refine gMetI [gA n0 0] (by decide) (Nat.le_of_ble_eq_true rfl) ⟨rfl, rfl⟩ ?_
  intro p e s m args below meth cd Q X hq
  have X : gCx p s m args meth cd n0 D cA "ParishUnion" cX11_undo 1 := X
  show G p l e R_s_X11_undo1 s m args below meth cd n0 D cA 1 Q 0 0 M sz 0 [(0, gA n0 0)] []
  refine g_aload_n (n := 1) X 0 dX11_undo_0 rfl rfl rfl ?_
  refine gg_11_9 (n := 4) (z := 206) X (by decide) (gsz hsz (by decide)) lay_0 kw_3_0 dX11_undo_1 rfl hkept (by decide) ?_
  refine g_ifnonnull (tgt := 10) X dX11_undo_4 (by decide) ?_
  refine g_aload_n (n := 11) X 0 dX11_undo_10 rfl rfl rfl ?_
  refine gg_11_0 (n := 14) (z := 1) X (by decide) (gsz hsz (by decide)) lay_0 kw_2_231 dX11_undo_11 rfl (rf_0_0 I (gsz hsz (by decide))) (by decide) ?_
  refine g_aload_n (n := 15) X 0 dX11_undo_14 rfl rfl rfl ?_
  refine gg_11_9 (n := 18) (z := 206) X (by decide) (gsz hsz (by decide)) lay_0 kw_3_0 dX11_undo_15 rfl hkept (by decide) ?_
  refine g_callVv (n := 21) (As := [gA n0 206]) (rest := []) (cs1 := 0) (ss1 := 0) X (s_X9_copyFrom_1_206  hsz I C hsz8) okX9_copyFrom kw_5_212 ⟨kw_5_213, kw_5_214⟩ ⟨rfl, rfl⟩ ⟨Nat.le_of_ble_eq_true rfl, Nat.le_of_ble_eq_true rfl⟩ rfl (by decide) (gsz hsz (by decide)) lay_1 rfl rfl (Nat.le_of_ble_eq_true rfl) ⟨Nat.le_of_ble_eq_true rfl, Nat.le_of_ble_eq_true rfl⟩ rfl rfl dX11_undo_18 rfl (fun M2 P3 => ?_)
  obtain ⟨IM2, CM2, FM2, xM2⟩ := P3
  refine g_aload_n (n := 22) X 0 dX11_undo_21 rfl rfl rfl ?_
  refine gg_11_0 (n := 25) (z := 1) X (by decide) (gsz hsz (by decide)) lay_0 kw_2_231 dX11_undo_22 rfl (rf_0_0 IM2 (gsz hsz (by decide))) (by decide) ?_
  obtain ⟨v4, hv4, rv4⟩ := gRd IM2 (by decide) (gsz hsz (by decide)) rc_1_15.1
  refine gg_9_15 (n := 28) (z := v4) X (by decide) (gsz hsz (by decide)) lay_1 kw_2_139 dX11_undo_25 rfl hv4 ?_
  exact hq _ _ _ _ dX11_undo_28 ⟨by omega, IM2, CM2, (gFr.c gFr.rf FM2 rfl), ⟨by have q2 := hv4; omega, xM2⟩⟩
theorem dX11_undo_7 : decode cX11_undo 7 = .ok (.bipush (-3), 2) := dc_16 253 (-3) (by decide +kernel)
theorem dX11_undo_9 : decode cX11_undo 9 = .ok (.ireturn, 1) := dc_172 (by decide +kernel)
abbrev R_s_X11_undo0 : Room := { frames := 7, cells := 0, slots := 0, locals := 187 }
set_option maxRecDepth 100000 in
set_option maxHeartbeats 4000000 in
theorem s_X11_undo0 {l : Launch} {n0 : Nat} {D : va_G} {cA : Nat → ClassId} {M : gM}  {sz : Nat} (hsz : 206 ≤ sz) (I : gI sz M) (C : gC sz M) (hkept : M 0 9 = 0)  : Met l yX11_undo (gWsOf yX11_undo cX11_undo 1 (Option.some Jvm.ClassFile.FieldType.int)) R_s_X11_undo0 (gPc n0 D cA [gA n0 0] M sz) (gQi n0 D cA sz (fun z M1 => M = M1 ∧ (-3 ≤ z ∧ z ≤ -3) ∧ (z = -3))) 0 0 (fun q => n0 ≤ q) := by
  refine gMetI [gA n0 0] (by decide) (Nat.le_of_ble_eq_true rfl) ⟨rfl, rfl⟩ ?_
  intro p e s m args below meth cd Q X hq
  have X : gCx p s m args meth cd n0 D cA "ParishUnion" cX11_undo 1 := X
  show G p l e R_s_X11_undo0 s m args below meth cd n0 D cA 1 Q 0 0 M sz 0 [(0, gA n0 0)] []
  refine g_aload_n (n := 1) X 0 dX11_undo_0 rfl rfl rfl ?_
  refine gn_11_9 (n := 4) X (by decide) (gsz hsz (by decide)) lay_0 kw_3_0 dX11_undo_1 rfl hkept ?_
  refine g_ifnonnullN (n := 7) X dX11_undo_4 rfl ?_
  refine g_bipush (n := 9) X dX11_undo_7 (by decide +kernel) rfl ?_
  exact hq _ _ _ _ dX11_undo_9 ⟨rfl, by omega, by omega⟩
