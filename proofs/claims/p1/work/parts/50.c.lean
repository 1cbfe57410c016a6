theorem dX7_readWord_0 : decode cX7_readWord 0 = .ok (.iconst 0, 1) := by decide +kernel
theorem dX7_readWord_1 : decode cX7_readWord 1 = .ok (.istore_n 1, 1) := by decide +kernel
theorem dX7_readWord_2 : decode cX7_readWord 2 = .ok (.iconst 0, 1) := by decide +kernel
theorem dX7_readWord_3 : decode cX7_readWord 3 = .ok (.istore_n 2, 1) := by decide +kernel
theorem dX7_readWord_4 : decode cX7_readWord 4 = .ok (.iload_n 2, 1) := by decide +kernel
theorem dX7_readWord_5 : decode cX7_readWord 5 = .ok (.bipush 10, 2) := by decide +kernel
theorem dX7_readWord_7 : decode cX7_readWord 7 = .ok (.if_icmp .ge 96, 3) := by decide +kernel
theorem dX7_readWord_10 : decode cX7_readWord 10 = .ok (.iload_n 2, 1) := by decide +kernel
theorem dX7_readWord_11 : decode cX7_readWord 11 = .ok (.invokestatic 50, 3) := by decide +kernel
theorem kw_3_224 : (Jvm.Cond.code ({ cls := "ParishUnion$Reader", name := "nameOf", desc := "(I)Ljava/lang/String;" } : Jvm.MethodName) prog_9_method_5_code (1 : Nat) (Option.some (Jvm.ClassFile.FieldType.object "java/lang/String"))) ∈ gT := gT_of (tb_3 _ (List.mem_of_getElem? (i := 224) rfl)) rfl
theorem okX7_nameOf : gQok yX7_nameOf cX7_nameOf 1 (Option.some (Jvm.ClassFile.FieldType.object "java/lang/String")) 1 := ⟨kw_3_224, kw_1_12, by decide +kernel, by decide +kernel, by decide +kernel⟩
theorem kw_3_222 : (Jvm.Cond.methodLink "ParishUnion$Reader" (50 : Nat) ({ cls := "ParishUnion$Reader", name := "nameOf", desc := "(I)Ljava/lang/String;" } : Jvm.MethodName)) ∈ gT := gT_of (tb_3 _ (List.mem_of_getElem? (i := 222) rfl)) rfl
theorem kw_3_223 : (Jvm.Cond.static ({ cls := "ParishUnion$Reader", name := "nameOf", desc := "(I)Ljava/lang/String;" } : Jvm.MethodName)) ∈ gT := gT_of (tb_3 _ (List.mem_of_getElem? (i := 223) rfl)) rfl
theorem dX7_readWord_14 : decode cX7_readWord 14 = .ok (.astore_n 3, 1) := by decide +kernel
theorem dX7_readWord_15 : decode cX7_readWord 15 = .ok (.iconst 0, 1) := by decide +kernel
theorem dX7_readWord_16 : decode cX7_readWord 16 = .ok (.istore 4, 2) := by decide +kernel
theorem dX7_readWord_18 : decode cX7_readWord 18 = .ok (.iload 4, 2) := by decide +kernel
theorem dX7_readWord_20 : decode cX7_readWord 20 = .ok (.aload_n 3, 1) := by decide +kernel
theorem dX7_readWord_21 : decode cX7_readWord 21 = .ok (.invokevirtual 54, 3) := by decide +kernel
theorem kw_3_235 : (Jvm.Cond.methodLink "ParishUnion$Reader" (54 : Nat) ({ cls := "java/lang/String", name := "length", desc := "()I" } : Jvm.MethodName)) ∈ gT := gT_of (tb_3 _ (List.mem_of_getElem? (i := 235) rfl)) rfl
theorem kw_3_236 : (Jvm.Cond.instanceMethod ({ cls := "java/lang/String", name := "length", desc := "()I" } : Jvm.MethodName)) ∈ gT := gT_of (tb_3 _ (List.mem_of_getElem? (i := 236) rfl)) rfl
theorem kw_3_237 : (Jvm.Cond.selects "java/lang/String" ({ cls := "java/lang/String", name := "length", desc := "()I" } : Jvm.MethodName) ({ cls := "java/lang/String", name := "length", desc := "()I" } : Jvm.MethodName)) ∈ gT := gT_of (tb_3 _ (List.mem_of_getElem? (i := 237) rfl)) rfl
theorem dX7_readWord_24 : decode cX7_readWord 24 = .ok (.if_icmp .ge 44, 3) := by decide +kernel
theorem dX7_readWord_27 : decode cX7_readWord 27 = .ok (.aload_n 0, 1) := by decide +kernel
theorem dX7_readWord_28 : decode cX7_readWord 28 = .ok (.getfield 23, 3) := by decide +kernel
theorem kw_2_213 : (Jvm.Cond.fieldLink "ParishUnion$Reader" (23 : Nat) "ParishUnion$Reader" "place" "I") ∈ gT := gT_of (tb_2 _ (List.mem_of_getElem? (i := 213) rfl)) rfl
theorem dX7_readWord_31 : decode cX7_readWord 31 = .ok (.iload 4, 2) := by decide +kernel
theorem dX7_readWord_33 : decode cX7_readWord 33 = .ok (.iadd, 1) := by decide +kernel
theorem dX7_readWord_34 : decode cX7_readWord 34 = .ok (.aload_n 0, 1) := by decide +kernel
theorem dX7_readWord_35 : decode cX7_readWord 35 = .ok (.getfield 22, 3) := by decide +kernel
theorem kw_2_212 : (Jvm.Cond.fieldLink "ParishUnion$Reader" (22 : Nat) "ParishUnion$Reader" "size" "I") ∈ gT := gT_of (tb_2 _ (List.mem_of_getElem? (i := 212) rfl)) rfl
theorem dX7_readWord_38 : decode cX7_readWord 38 = .ok (.if_icmp .ge 30, 3) := by decide +kernel
theorem dX7_readWord_68 : decode cX7_readWord 68 = .ok (.iload 4, 2) := by decide +kernel
theorem dX7_readWord_70 : decode cX7_readWord 70 = .ok (.aload_n 3, 1) := by decide +kernel
theorem dX7_readWord_71 : decode cX7_readWord 71 = .ok (.invokevirtual 54, 3) := by decide +kernel
theorem dX7_readWord_74 : decode cX7_readWord 74 = .ok (.if_icmp .ne 16, 3) := by decide +kernel
theorem dX7_readWord_90 : decode cX7_readWord 90 = .ok (.iload_n 1, 1) := by decide +kernel
theorem dX7_readWord_91 : decode cX7_readWord 91 = .ok (.iload 4, 2) := by decide +kernel
theorem dX7_readWord_93 : decode cX7_readWord 93 = .ok (.invokestatic 63, 3) := by decide +kernel
theorem kw_4_43 : (Jvm.Cond.methodLink "ParishUnion$Reader" (63 : Nat) ({ cls := "java/lang/Math", name := "max", desc := "(II)I" } : Jvm.MethodName)) ∈ gT := gT_of (tb_4 _ (List.mem_of_getElem? (i := 43) rfl)) rfl
theorem kw_3_153 : (Jvm.Cond.static ({ cls := "java/lang/Math", name := "max", desc := "(II)I" } : Jvm.MethodName)) ∈ gT := gT_of (tb_3 _ (List.mem_of_getElem? (i := 153) rfl)) rfl
theorem kw_3_154 : (Jvm.Cond.code ({ cls := "java/lang/Math", name := "max", desc := "(II)I" } : Jvm.MethodName) prog_16_method_65_code (2 : Nat) (Option.some Jvm.ClassFile.FieldType.int)) ∈ gT := gT_of (tb_3 _ (List.mem_of_getElem? (i := 154) rfl)) rfl
theorem dX7_readWord_96 : decode cX7_readWord 96 = .ok (.istore_n 1, 1) := by decide +kernel
theorem dX7_readWord_97 : decode cX7_readWord 97 = .ok (.iinc 2 1, 3) := by decide +kernel
theorem dX7_readWord_100 : decode cX7_readWord 100 = .ok (.goto (-96), 3) := by decide +kernel
theorem dX7_readWord_103 : decode cX7_readWord 103 = .ok (.aload_n 0, 1) := by decide +kernel
theorem dX7_readWord_104 : decode cX7_readWord 104 = .ok (.dup, 1) := by decide +kernel
theorem dX7_readWord_105 : decode cX7_readWord 105 = .ok (.getfield 23, 3) := by decide +kernel
theorem dX7_readWord_108 : decode cX7_readWord 108 = .ok (.iload_n 1, 1) := by decide +kernel
theorem dX7_readWord_109 : decode cX7_readWord 109 = .ok (.iadd, 1) := by decide +kernel
theorem dX7_readWord_110 : decode cX7_readWord 110 = .ok (.putfield 23, 3) := by decide +kernel
theorem dX7_readWord_113 : decode cX7_readWord 113 = .ok (.iconst (-1), 1) := by decide +kernel
theorem dX7_readWord_114 : decode cX7_readWord 114 = .ok (.ireturn, 1) := by decide +kernel
set_option maxRecDepth 100000 in
set_option maxHeartbeats 4000000 in
theorem c_X7_readWord {l : Launch} {n0 : Nat} {D : va_G} {cA : Nat → ClassId} {M : gM}  {sz : Nat} (hsz : 206 ≤ sz) (f_159_1 : M 159 1 = 0) (f_159_2 : M 159 2 = 0) : Met l yX7_readWord (gWsOf yX7_readWord cX7_readWord 5 (Option.some Jvm.ClassFile.FieldType.int)) { frames := 4, cells := 0, slots := 0, locals := 120 } (gPc n0 D cA [gA n0 159] M sz) (gQi n0 D cA sz (fun z M1 => (z = -1) ∧ M1 159 2 = 0 ∧ M1 159 1 = 0 ∧ ∀ a : Int, a ≠ 159 → M1 a = M a)) 0 0 (fun q => n0 ≤ q) := by
  refine gMet_of [gA n0 159] (by decide) (Nat.le_of_ble_eq_true rfl) ?_
  intro p e s m args below meth cd X hr hm
  have X : gCx p s m args meth cd n0 D cA "ParishUnion$Reader" cX7_readWord 5 := X
  show G p l e ({ frames := 4, cells := 0, slots := 0, locals := 120 } : Room) s m args below meth cd n0 D cA 5 (MQ below (gQi n0 D cA sz (fun z M1 => (z = -1) ∧ M1 159 2 = 0 ∧ M1 159 1 = 0 ∧ ∀ a : Int, a ≠ 159 → M1 a = M a)) args s 0 0 (fun q => n0 ≤ q)) 0 0 M sz 0 [(0, gA n0 159)] []
  refine g_iconst (n := 1) X dX7_readWord_0 rfl ?_
  refine g_istore_n (n := 2) (L' := [(1, gJ 0), (0, gA n0 159)]) X dX7_readWord_1 rfl (by decide) rfl rfl ?_
  refine g_iconst (n := 3) X dX7_readWord_2 rfl ?_
  refine g_istore_n (n := 4) (L' := [(2, gJ 0), (1, gJ 0), (0, gA n0 159)]) X dX7_readWord_3 rfl (by decide) rfl rfl ?_
  refine g_iload_n (n := 5) X 0 dX7_readWord_4 rfl rfl rfl ?_
  refine g_bipush (n := 7) X dX7_readWord_5 (by decide +kernel) rfl ?_
  refine g_icmp_ge (n := 10) (tgt := 103) X dX7_readWord_7 (by decide) (by omega) (by omega) rfl (fun c1 => by exfalso; omega) (fun c1 => ?_)
  refine g_iload_n (n := 11) X 0 dX7_readWord_10 rfl rfl rfl ?_
  refine g_callSs (n := 14) (As := [gJ 0]) (rest := []) (cs1 := 0) (ss1 := 0) X (c_X7_nameOf 0 (by omega) (by omega)) okX7_nameOf kw_3_222 kw_3_223 ⟨rfl, rfl⟩ ⟨Nat.le_of_ble_eq_true rfl, Nat.le_of_ble_eq_true rfl⟩ rfl rfl (Nat.le_of_ble_eq_true rfl) ⟨Nat.le_of_ble_eq_true rfl, Nat.le_of_ble_eq_true rfl⟩ rfl rfl dX7_readWord_11 rfl (fun z2 M3 P4 => ?_)
  obtain ⟨rfl, P4⟩ := P4
  obtain rfl : z2 = 0 := by omega
  refine G.str (i := 0) rfl ?_
  refine g_astore_n (n := 15) (L' := [(3, .ref (cA (100 + 0))), (2, gJ 0), (1, gJ 0), (0, gA n0 159)]) X dX7_readWord_14 rfl (by decide) rfl rfl ?_
  refine g_iconst (n := 16) X dX7_readWord_15 rfl ?_
  refine g_istore (n := 18) (L' := [(4, gJ 0), (3, .ref (cA (100 + 0))), (2, gJ 0), (1, gJ 0), (0, gA n0 159)]) X dX7_readWord_16 (by decide) rfl rfl ?_
  refine g_iload (n := 20) X 0 dX7_readWord_18 rfl rfl ?_
  refine g_aload_n (n := 21) X 1 dX7_readWord_20 rfl rfl rfl ?_
  refine g_callSt (n := 24) (As := []) (rest := [gJ 0]) (cs1 := 0) (ss1 := 0) X 0 rfl c_J_len_0 okJ_len kw_3_235 ⟨kw_3_236, kw_3_237⟩ ⟨rfl, rfl⟩ ⟨Nat.le_of_ble_eq_true rfl, Nat.le_of_ble_eq_true rfl⟩ rfl rfl (Nat.le_of_ble_eq_true rfl) ⟨Nat.le_of_ble_eq_true rfl, Nat.le_of_ble_eq_true rfl⟩ rfl rfl dX7_readWord_21 rfl (fun z5 M6 P7 => ?_)
  obtain ⟨rfl, rfl⟩ := P7
  refine g_icmp_ge (n := 27) (tgt := 68) X dX7_readWord_24 (by decide) (by omega) (by omega) rfl (fun c8 => by exfalso; omega) (fun c8 => ?_)
  refine g_aload_n (n := 28) X 4 dX7_readWord_27 rfl rfl rfl ?_
  refine gg_7_2 (n := 31) (z := 0) X (by omega) (by omega) lay_159 kw_2_213 dX7_readWord_28 rfl f_159_2 ?_
  refine g_iload (n := 33) X 0 dX7_readWord_31 rfl rfl ?_
  refine g_iadd (n := 34) (z := 0) X dX7_readWord_33 rfl rfl ?_
  refine g_aload_n (n := 35) X 4 dX7_readWord_34 rfl rfl rfl ?_
  refine gg_7_1 (n := 38) (z := 0) X (by omega) (by omega) lay_159 kw_2_212 dX7_readWord_35 rfl f_159_1 ?_
  refine g_icmp_ge (n := 41) (tgt := 68) X dX7_readWord_38 (by decide) (by omega) (by omega) rfl (fun c9 => ?_) (fun c9 => by exfalso; omega)
  refine g_iload (n := 70) X 0 dX7_readWord_68 rfl rfl ?_
  refine g_aload_n (n := 71) X 1 dX7_readWord_70 rfl rfl rfl ?_
  refine g_callSt (n := 74) (As := []) (rest := [gJ 0]) (cs1 := 0) (ss1 := 0) X 0 rfl c_J_len_0 okJ_len kw_3_235 ⟨kw_3_236, kw_3_237⟩ ⟨rfl, rfl⟩ ⟨Nat.le_of_ble_eq_true rfl, Nat.le_of_ble_eq_true rfl⟩ rfl rfl (Nat.le_of_ble_eq_true rfl) ⟨Nat.le_of_ble_eq_true rfl, Nat.le_of_ble_eq_true rfl⟩ rfl rfl dX7_readWord_71 rfl (fun z10 M11 P12 => ?_)
  obtain ⟨rfl, rfl⟩ := P12
  refine g_icmp_ne (n := 77) (tgt := 90) X dX7_readWord_74 (by decide) (by omega) (by omega) rfl (fun c13 => ?_) (fun c13 => by exfalso; omega)
  refine g_iload_n (n := 91) X 3 dX7_readWord_90 rfl rfl rfl ?_
  refine g_iload (n := 93) X 0 dX7_readWord_91 rfl rfl ?_
  refine g_mmax (n := 96) X kw_4_43 kw_3_153 kw_1_14 kw_3_154 (by omega) (by omega) (Nat.le_of_ble_eq_true rfl) (Nat.le_of_ble_eq_true rfl) (Nat.le_of_ble_eq_true rfl) (Nat.le_of_ble_eq_true rfl) dX7_readWord_93 rfl (fun x14 hx14 => ?_)
  obtain rfl : x14 = 0 := by omega
  refine g_istore_n (n := 97) (L' := [(1, gJ 0), (4, gJ 0), (3, .ref (cA (100 + 0))), (2, gJ 0), (0, gA n0 159)]) X dX7_readWord_96 rfl (by decide) rfl rfl ?_
  refine g_iinc (n := 100) (w := 1) (L' := [(2, gJ 1), (1, gJ 0), (4, gJ 0), (3, .ref (cA (100 + 0))), (0, gA n0 159)]) X 3 dX7_readWord_97 rfl rfl (by decide) rfl rfl ?_
  refine g_goto (tgt := 4) X dX7_readWord_100 (by decide) ?_
  refine g_iload_n (n := 5) X 0 dX7_readWord_4 rfl rfl rfl ?_
  refine g_bipush (n := 7) X dX7_readWord_5 (by decide +kernel) rfl ?_
  refine g_icmp_ge (n := 10) (tgt := 103) X dX7_readWord_7 (by decide) (by omega) (by omega) rfl (fun c15 => by exfalso; omega) (fun c15 => ?_)
  refine g_iload_n (n := 11) X 0 dX7_readWord_10 rfl rfl rfl ?_
  refine g_callSs (n := 14) (As := [gJ 1]) (rest := []) (cs1 := 0) (ss1 := 0) X (c_X7_nameOf 1 (by omega) (by omega)) okX7_nameOf kw_3_222 kw_3_223 ⟨rfl, rfl⟩ ⟨Nat.le_of_ble_eq_true rfl, Nat.le_of_ble_eq_true rfl⟩ rfl rfl (Nat.le_of_ble_eq_true rfl) ⟨Nat.le_of_ble_eq_true rfl, Nat.le_of_ble_eq_true rfl⟩ rfl rfl dX7_readWord_11 rfl (fun z16 M17 P18 => ?_)
  obtain ⟨rfl, P18⟩ := P18
  obtain rfl : z16 = 1 := by omega
  refine G.str (i := 1) rfl ?_
  refine g_astore_n (n := 15) (L' := [(3, .ref (cA (100 + 1))), (2, gJ 1), (1, gJ 0), (4, gJ 0), (0, gA n0 159)]) X dX7_readWord_14 rfl (by decide) rfl rfl ?_
  refine g_iconst (n := 16) X dX7_readWord_15 rfl ?_
  refine g_istore (n := 18) (L' := [(4, gJ 0), (3, .ref (cA (100 + 1))), (2, gJ 1), (1, gJ 0), (0, gA n0 159)]) X dX7_readWord_16 (by decide) rfl rfl ?_
  refine g_iload (n := 20) X 0 dX7_readWord_18 rfl rfl ?_
  refine g_aload_n (n := 21) X 1 dX7_readWord_20 rfl rfl rfl ?_
  refine g_callSt (n := 24) (As := []) (rest := [gJ 0]) (cs1 := 0) (ss1 := 0) X 1 rfl c_J_len_1 okJ_len kw_3_235 ⟨kw_3_236, kw_3_237⟩ ⟨rfl, rfl⟩ ⟨Nat.le_of_ble_eq_true rfl, Nat.le_of_ble_eq_true rfl⟩ rfl rfl (Nat.le_of_ble_eq_true rfl) ⟨Nat.le_of_ble_eq_true rfl, Nat.le_of_ble_eq_true rfl⟩ rfl rfl dX7_readWord_21 rfl (fun z19 M20 P21 => ?_)
  obtain ⟨rfl, rfl⟩ := P21
  refine g_icmp_ge (n := 27) (tgt := 68) X dX7_readWord_24 (by decide) (by omega) (by omega) rfl (fun c22 => by exfalso; omega) (fun c22 => ?_)
  refine g_aload_n (n := 28) X 4 dX7_readWord_27 rfl rfl rfl ?_
  refine gg_7_2 (n := 31) (z := 0) X (by omega) (by omega) lay_159 kw_2_213 dX7_readWord_28 rfl f_159_2 ?_
  refine g_iload (n := 33) X 0 dX7_readWord_31 rfl rfl ?_
  refine g_iadd (n := 34) (z := 0) X dX7_readWord_33 rfl rfl ?_
  refine g_aload_n (n := 35) X 4 dX7_readWord_34 rfl rfl rfl ?_
  refine gg_7_1 (n := 38) (z := 0) X (by omega) (by omega) lay_159 kw_2_212 dX7_readWord_35 rfl f_159_1 ?_
  refine g_icmp_ge (n := 41) (tgt := 68) X dX7_readWord_38 (by decide) (by omega) (by omega) rfl (fun c23 => ?_) (fun c23 => by exfalso; omega)
  refine g_iload (n := 70) X 0 dX7_readWord_68 rfl rfl ?_
  refine g_aload_n (n := 71) X 1 dX7_readWord_70 rfl rfl rfl ?_
  refine g_callSt (n := 74) (As := []) (rest := [gJ 0]) (cs1 := 0) (ss1 := 0) X 1 rfl c_J_len_1 okJ_len kw_3_235 ⟨kw_3_236, kw_3_237⟩ ⟨rfl, rfl⟩ ⟨Nat.le_of_ble_eq_true rfl, Nat.le_of_ble_eq_true rfl⟩ rfl rfl (Nat.le_of_ble_eq_true rfl) ⟨Nat.le_of_ble_eq_true rfl, Nat.le_of_ble_eq_true rfl⟩ rfl rfl dX7_readWord_71 rfl (fun z24 M25 P26 => ?_)
  obtain ⟨rfl, rfl⟩ := P26
  refine g_icmp_ne (n := 77) (tgt := 90) X dX7_readWord_74 (by decide) (by omega) (by omega) rfl (fun c27 => ?_) (fun c27 => by exfalso; omega)
  refine g_iload_n (n := 91) X 3 dX7_readWord_90 rfl rfl rfl ?_
  refine g_iload (n := 93) X 0 dX7_readWord_91 rfl rfl ?_
  refine g_mmax (n := 96) X kw_4_43 kw_3_153 kw_1_14 kw_3_154 (by omega) (by omega) (Nat.le_of_ble_eq_true rfl) (Nat.le_of_ble_eq_true rfl) (Nat.le_of_ble_eq_true rfl) (Nat.le_of_ble_eq_true rfl) dX7_readWord_93 rfl (fun x28 hx28 => ?_)
  obtain rfl : x28 = 0 := by omega
  refine g_istore_n (n := 97) (L' := [(1, gJ 0), (4, gJ 0), (3, .ref (cA (100 + 1))), (2, gJ 1), (0, gA n0 159)]) X dX7_readWord_96 rfl (by decide) rfl rfl ?_
  refine g_iinc (n := 100) (w := 2) (L' := [(2, gJ 2), (1, gJ 0), (4, gJ 0), (3, .ref (cA (100 + 1))), (0, gA n0 159)]) X 3 dX7_readWord_97 rfl rfl (by decide) rfl rfl ?_
  refine g_goto (tgt := 4) X dX7_readWord_100 (by decide) ?_
  refine g_iload_n (n := 5) X 0 dX7_readWord_4 rfl rfl rfl ?_
  refine g_bipush (n := 7) X dX7_readWord_5 (by decide +kernel) rfl ?_
  refine g_icmp_ge (n := 10) (tgt := 103) X dX7_readWord_7 (by decide) (by omega) (by omega) rfl (fun c29 => by exfalso; omega) (fun c29 => ?_)
  refine g_iload_n (n := 11) X 0 dX7_readWord_10 rfl rfl rfl ?_
  refine g_callSs (n := 14) (As := [gJ 2]) (rest := []) (cs1 := 0) (ss1 := 0) X (c_X7_nameOf 2 (by omega) (by omega)) okX7_nameOf kw_3_222 kw_3_223 ⟨rfl, rfl⟩ ⟨Nat.le_of_ble_eq_true rfl, Nat.le_of_ble_eq_true rfl⟩ rfl rfl (Nat.le_of_ble_eq_true rfl) ⟨Nat.le_of_ble_eq_true rfl, Nat.le_of_ble_eq_true rfl⟩ rfl rfl dX7_readWord_11 rfl (fun z30 M31 P32 => ?_)
  obtain ⟨rfl, P32⟩ := P32
  obtain rfl : z30 = 2 := by omega
  refine G.str (i := 2) rfl ?_
  refine g_astore_n (n := 15) (L' := [(3, .ref (cA (100 + 2))), (2, gJ 2), (1, gJ 0), (4, gJ 0), (0, gA n0 159)]) X dX7_readWord_14 rfl (by decide) rfl rfl ?_
  refine g_iconst (n := 16) X dX7_readWord_15 rfl ?_
  refine g_istore (n := 18) (L' := [(4, gJ 0), (3, .ref (cA (100 + 2))), (2, gJ 2), (1, gJ 0), (0, gA n0 159)]) X dX7_readWord_16 (by decide) rfl rfl ?_
  refine g_iload (n := 20) X 0 dX7_readWord_18 rfl rfl ?_
  refine g_aload_n (n := 21) X 1 dX7_readWord_20 rfl rfl rfl ?_
  refine g_callSt (n := 24) (As := []) (rest := [gJ 0]) (cs1 := 0) (ss1 := 0) X 2 rfl c_J_len_2 okJ_len kw_3_235 ⟨kw_3_236, kw_3_237⟩ ⟨rfl, rfl⟩ ⟨Nat.le_of_ble_eq_true rfl, Nat.le_of_ble_eq_true rfl⟩ rfl rfl (Nat.le_of_ble_eq_true rfl) ⟨Nat.le_of_ble_eq_true rfl, Nat.le_of_ble_eq_true rfl⟩ rfl rfl dX7_readWord_21 rfl (fun z33 M34 P35 => ?_)
  obtain ⟨rfl, rfl⟩ := P35
  refine g_icmp_ge (n := 27) (tgt := 68) X dX7_readWord_24 (by decide) (by omega) (by omega) rfl (fun c36 => by exfalso; omega) (fun c36 => ?_)
  refine g_aload_n (n := 28) X 4 dX7_readWord_27 rfl rfl rfl ?_
  refine gg_7_2 (n := 31) (z := 0) X (by omega) (by omega) lay_159 kw_2_213 dX7_readWord_28 rfl f_159_2 ?_
  refine g_iload (n := 33) X 0 dX7_readWord_31 rfl rfl ?_
  refine g_iadd (n := 34) (z := 0) X dX7_readWord_33 rfl rfl ?_
  refine g_aload_n (n := 35) X 4 dX7_readWord_34 rfl rfl rfl ?_
  refine gg_7_1 (n := 38) (z := 0) X (by omega) (by omega) lay_159 kw_2_212 dX7_readWord_35 rfl f_159_1 ?_
  refine g_icmp_ge (n := 41) (tgt := 68) X dX7_readWord_38 (by decide) (by omega) (by omega) rfl (fun c37 => ?_) (fun c37 => by exfalso; omega)
  refine g_iload (n := 70) X 0 dX7_readWord_68 rfl rfl ?_
  refine g_aload_n (n := 71) X 1 dX7_readWord_70 rfl rfl rfl ?_
  refine g_callSt (n := 74) (As := []) (rest := [gJ 0]) (cs1 := 0) (ss1 := 0) X 2 rfl c_J_len_2 okJ_len kw_3_235 ⟨kw_3_236, kw_3_237⟩ ⟨rfl, rfl⟩ ⟨Nat.le_of_ble_eq_true rfl, Nat.le_of_ble_eq_true rfl⟩ rfl rfl (Nat.le_of_ble_eq_true rfl) ⟨Nat.le_of_ble_eq_true rfl, Nat.le_of_ble_eq_true rfl⟩ rfl rfl dX7_readWord_71 rfl (fun z38 M39 P40 => ?_)
  obtain ⟨rfl, rfl⟩ := P40
  refine g_icmp_ne (n := 77) (tgt := 90) X dX7_readWord_74 (by decide) (by omega) (by omega) rfl (fun c41 => ?_) (fun c41 => by exfalso; omega)
  refine g_iload_n (n := 91) X 3 dX7_readWord_90 rfl rfl rfl ?_
  refine g_iload (n := 93) X 0 dX7_readWord_91 rfl rfl ?_
  refine g_mmax (n := 96) X kw_4_43 kw_3_153 kw_1_14 kw_3_154 (by omega) (by omega) (Nat.le_of_ble_eq_true rfl) (Nat.le_of_ble_eq_true rfl) (Nat.le_of_ble_eq_true rfl) (Nat.le_of_ble_eq_true rfl) dX7_readWord_93 rfl (fun x42 hx42 => ?_)
  obtain rfl : x42 = 0 := by omega
  refine g_istore_n (n := 97) (L' := [(1, gJ 0), (4, gJ 0), (3, .ref (cA (100 + 2))), (2, gJ 2), (0, gA n0 159)]) X dX7_readWord_96 rfl (by decide) rfl rfl ?_
  refine g_iinc (n := 100) (w := 3) (L' := [(2, gJ 3), (1, gJ 0), (4, gJ 0), (3, .ref (cA (100 + 2))), (0, gA n0 159)]) X 3 dX7_readWord_97 rfl rfl (by decide) rfl rfl ?_
  refine g_goto (tgt := 4) X dX7_readWord_100 (by decide) ?_
  refine g_iload_n (n := 5) X 0 dX7_readWord_4 rfl rfl rfl ?_
  refine g_bipush (n := 7) X dX7_readWord_5 (by decide +kernel) rfl ?_
  refine g_icmp_ge (n := 10) (tgt := 103) X dX7_readWord_7 (by decide) (by omega) (by omega) rfl (fun c43 => by exfalso; omega) (fun c43 => ?_)
  refine g_iload_n (n := 11) X 0 dX7_readWord_10 rfl rfl rfl ?_
  refine g_callSs (n := 14) (As := [gJ 3]) (rest := []) (cs1 := 0) (ss1 := 0) X (c_X7_nameOf 3 (by omega) (by omega)) okX7_nameOf kw_3_222 kw_3_223 ⟨rfl, rfl⟩ ⟨Nat.le_of_ble_eq_true rfl, Nat.le_of_ble_eq_true rfl⟩ rfl rfl (Nat.le_of_ble_eq_true rfl) ⟨Nat.le_of_ble_eq_true rfl, Nat.le_of_ble_eq_true rfl⟩ rfl rfl dX7_readWord_11 rfl (fun z44 M45 P46 => ?_)
  obtain ⟨rfl, P46⟩ := P46
  obtain rfl : z44 = 3 := by omega
  refine G.str (i := 3) rfl ?_
  refine g_astore_n (n := 15) (L' := [(3, .ref (cA (100 + 3))), (2, gJ 3), (1, gJ 0), (4, gJ 0), (0, gA n0 159)]) X dX7_readWord_14 rfl (by decide) rfl rfl ?_
  refine g_iconst (n := 16) X dX7_readWord_15 rfl ?_
  refine g_istore (n := 18) (L' := [(4, gJ 0), (3, .ref (cA (100 + 3))), (2, gJ 3), (1, gJ 0), (0, gA n0 159)]) X dX7_readWord_16 (by decide) rfl rfl ?_
  refine g_iload (n := 20) X 0 dX7_readWord_18 rfl rfl ?_
  refine g_aload_n (n := 21) X 1 dX7_readWord_20 rfl rfl rfl ?_
  refine g_callSt (n := 24) (As := []) (rest := [gJ 0]) (cs1 := 0) (ss1 := 0) X 3 rfl c_J_len_3 okJ_len kw_3_235 ⟨kw_3_236, kw_3_237⟩ ⟨rfl, rfl⟩ ⟨Nat.le_of_ble_eq_true rfl, Nat.le_of_ble_eq_true rfl⟩ rfl rfl (Nat.le_of_ble_eq_true rfl) ⟨Nat.le_of_ble_eq_true rfl, Nat.le_of_ble_eq_true rfl⟩ rfl rfl dX7_readWord_21 rfl (fun z47 M48 P49 => ?_)
  obtain ⟨rfl, rfl⟩ := P49
  refine g_icmp_ge (n := 27) (tgt := 68) X dX7_readWord_24 (by decide) (by omega) (by omega) rfl (fun c50 => by exfalso; omega) (fun c50 => ?_)
  refine g_aload_n (n := 28) X 4 dX7_readWord_27 rfl rfl rfl ?_
  refine gg_7_2 (n := 31) (z := 0) X (by omega) (by omega) lay_159 kw_2_213 dX7_readWord_28 rfl f_159_2 ?_
  refine g_iload (n := 33) X 0 dX7_readWord_31 rfl rfl ?_
  refine g_iadd (n := 34) (z := 0) X dX7_readWord_33 rfl rfl ?_
  refine g_aload_n (n := 35) X 4 dX7_readWord_34 rfl rfl rfl ?_
  refine gg_7_1 (n := 38) (z := 0) X (by omega) (by omega) lay_159 kw_2_212 dX7_readWord_35 rfl f_159_1 ?_
  refine g_icmp_ge (n := 41) (tgt := 68) X dX7_readWord_38 (by decide) (by omega) (by omega) rfl (fun c51 => ?_) (fun c51 => by exfalso; omega)
  refine g_iload (n := 70) X 0 dX7_readWord_68 rfl rfl ?_
  refine g_aload_n (n := 71) X 1 dX7_readWord_70 rfl rfl rfl ?_
  refine g_callSt (n := 74) (As := []) (rest := [gJ 0]) (cs1 := 0) (ss1 := 0) X 3 rfl c_J_len_3 okJ_len kw_3_235 ⟨kw_3_236, kw_3_237⟩ ⟨rfl, rfl⟩ ⟨Nat.le_of_ble_eq_true rfl, Nat.le_of_ble_eq_true rfl⟩ rfl rfl (Nat.le_of_ble_eq_true rfl) ⟨Nat.le_of_ble_eq_true rfl, Nat.le_of_ble_eq_true rfl⟩ rfl rfl dX7_readWord_71 rfl (fun z52 M53 P54 => ?_)
  obtain ⟨rfl, rfl⟩ := P54
  refine g_icmp_ne (n := 77) (tgt := 90) X dX7_readWord_74 (by decide) (by omega) (by omega) rfl (fun c55 => ?_) (fun c55 => by exfalso; omega)
  refine g_iload_n (n := 91) X 3 dX7_readWord_90 rfl rfl rfl ?_
  refine g_iload (n := 93) X 0 dX7_readWord_91 rfl rfl ?_
  refine g_mmax (n := 96) X kw_4_43 kw_3_153 kw_1_14 kw_3_154 (by omega) (by omega) (Nat.le_of_ble_eq_true rfl) (Nat.le_of_ble_eq_true rfl) (Nat.le_of_ble_eq_true rfl) (Nat.le_of_ble_eq_true rfl) dX7_readWord_93 rfl (fun x56 hx56 => ?_)
  obtain rfl : x56 = 0 := by omega
  refine g_istore_n (n := 97) (L' := [(1, gJ 0), (4, gJ 0), (3, .ref (cA (100 + 3))), (2, gJ 3), (0, gA n0 159)]) X dX7_readWord_96 rfl (by decide) rfl rfl ?_
  refine g_iinc (n := 100) (w := 4) (L' := [(2, gJ 4), (1, gJ 0), (4, gJ 0), (3, .ref (cA (100 + 3))), (0, gA n0 159)]) X 3 dX7_readWord_97 rfl rfl (by decide) rfl rfl ?_
  refine g_goto (tgt := 4) X dX7_readWord_100 (by decide) ?_
  refine g_iload_n (n := 5) X 0 dX7_readWord_4 rfl rfl rfl ?_
  refine g_bipush (n := 7) X dX7_readWord_5 (by decide +kernel) rfl ?_
  refine g_icmp_ge (n := 10) (tgt := 103) X dX7_readWord_7 (by decide) (by omega) (by omega) rfl (fun c57 => by exfalso; omega) (fun c57 => ?_)
  refine g_iload_n (n := 11) X 0 dX7_readWord_10 rfl rfl rfl ?_
  refine g_callSs (n := 14) (As := [gJ 4]) (rest := []) (cs1 := 0) (ss1 := 0) X (c_X7_nameOf 4 (by omega) (by omega)) okX7_nameOf kw_3_222 kw_3_223 ⟨rfl, rfl⟩ ⟨Nat.le_of_ble_eq_true rfl, Nat.le_of_ble_eq_true rfl⟩ rfl rfl (Nat.le_of_ble_eq_true rfl) ⟨Nat.le_of_ble_eq_true rfl, Nat.le_of_ble_eq_true rfl⟩ rfl rfl dX7_readWord_11 rfl (fun z58 M59 P60 => ?_)
  obtain ⟨rfl, P60⟩ := P60
  obtain rfl : z58 = 4 := by omega
  refine G.str (i := 4) rfl ?_
  refine g_astore_n (n := 15) (L' := [(3, .ref (cA (100 + 4))), (2, gJ 4), (1, gJ 0), (4, gJ 0), (0, gA n0 159)]) X dX7_readWord_14 rfl (by decide) rfl rfl ?_
  refine g_iconst (n := 16) X dX7_readWord_15 rfl ?_
  refine g_istore (n := 18) (L' := [(4, gJ 0), (3, .ref (cA (100 + 4))), (2, gJ 4), (1, gJ 0), (0, gA n0 159)]) X dX7_readWord_16 (by decide) rfl rfl ?_
  refine g_iload (n := 20) X 0 dX7_readWord_18 rfl rfl ?_
  refine g_aload_n (n := 21) X 1 dX7_readWord_20 rfl rfl rfl ?_
  refine g_callSt (n := 24) (As := []) (rest := [gJ 0]) (cs1 := 0) (ss1 := 0) X 4 rfl c_J_len_4 okJ_len kw_3_235 ⟨kw_3_236, kw_3_237⟩ ⟨rfl, rfl⟩ ⟨Nat.le_of_ble_eq_true rfl, Nat.le_of_ble_eq_true rfl⟩ rfl rfl (Nat.le_of_ble_eq_true rfl) ⟨Nat.le_of_ble_eq_true rfl, Nat.le_of_ble_eq_true rfl⟩ rfl rfl dX7_readWord_21 rfl (fun z61 M62 P63 => ?_)
  obtain ⟨rfl, rfl⟩ := P63
  refine g_icmp_ge (n := 27) (tgt := 68) X dX7_readWord_24 (by decide) (by omega) (by omega) rfl (fun c64 => by exfalso; omega) (fun c64 => ?_)
  refine g_aload_n (n := 28) X 4 dX7_readWord_27 rfl rfl rfl ?_
  refine gg_7_2 (n := 31) (z := 0) X (by omega) (by omega) lay_159 kw_2_213 dX7_readWord_28 rfl f_159_2 ?_
  refine g_iload (n := 33) X 0 dX7_readWord_31 rfl rfl ?_
  refine g_iadd (n := 34) (z := 0) X dX7_readWord_33 rfl rfl ?_
  refine g_aload_n (n := 35) X 4 dX7_readWord_34 rfl rfl rfl ?_
  refine gg_7_1 (n := 38) (z := 0) X (by omega) (by omega) lay_159 kw_2_212 dX7_readWord_35 rfl f_159_1 ?_
  refine g_icmp_ge (n := 41) (tgt := 68) X dX7_readWord_38 (by decide) (by omega) (by omega) rfl (fun c65 => ?_) (fun c65 => by exfalso; omega)
  refine g_iload (n := 70) X 0 dX7_readWord_68 rfl rfl ?_
  refine g_aload_n (n := 71) X 1 dX7_readWord_70 rfl rfl rfl ?_
  refine g_callSt (n := 74) (As := []) (rest := [gJ 0]) (cs1 := 0) (ss1 := 0) X 4 rfl c_J_len_4 okJ_len kw_3_235 ⟨kw_3_236, kw_3_237⟩ ⟨rfl, rfl⟩ ⟨Nat.le_of_ble_eq_true rfl, Nat.le_of_ble_eq_true rfl⟩ rfl rfl (Nat.le_of_ble_eq_true rfl) ⟨Nat.le_of_ble_eq_true rfl, Nat.le_of_ble_eq_true rfl⟩ rfl rfl dX7_readWord_71 rfl (fun z66 M67 P68 => ?_)
  obtain ⟨rfl, rfl⟩ := P68
  refine g_icmp_ne (n := 77) (tgt := 90) X dX7_readWord_74 (by decide) (by omega) (by omega) rfl (fun c69 => ?_) (fun c69 => by exfalso; omega)
  refine g_iload_n (n := 91) X 3 dX7_readWord_90 rfl rfl rfl ?_
  refine g_iload (n := 93) X 0 dX7_readWord_91 rfl rfl ?_
  refine g_mmax (n := 96) X kw_4_43 kw_3_153 kw_1_14 kw_3_154 (by omega) (by omega) (Nat.le_of_ble_eq_true rfl) (Nat.le_of_ble_eq_true rfl) (Nat.le_of_ble_eq_true rfl) (Nat.le_of_ble_eq_true rfl) dX7_readWord_93 rfl (fun x70 hx70 => ?_)
  obtain rfl : x70 = 0 := by omega
  refine g_istore_n (n := 97) (L' := [(1, gJ 0), (4, gJ 0), (3, .ref (cA (100 + 4))), (2, gJ 4), (0, gA n0 159)]) X dX7_readWord_96 rfl (by decide) rfl rfl ?_
  refine g_iinc (n := 100) (w := 5) (L' := [(2, gJ 5), (1, gJ 0), (4, gJ 0), (3, .ref (cA (100 + 4))), (0, gA n0 159)]) X 3 dX7_readWord_97 rfl rfl (by decide) rfl rfl ?_
  refine g_goto (tgt := 4) X dX7_readWord_100 (by decide) ?_
  refine g_iload_n (n := 5) X 0 dX7_readWord_4 rfl rfl rfl ?_
  refine g_bipush (n := 7) X dX7_readWord_5 (by decide +kernel) rfl ?_
  refine g_icmp_ge (n := 10) (tgt := 103) X dX7_readWord_7 (by decide) (by omega) (by omega) rfl (fun c71 => by exfalso; omega) (fun c71 => ?_)
  refine g_iload_n (n := 11) X 0 dX7_readWord_10 rfl rfl rfl ?_
  refine g_callSs (n := 14) (As := [gJ 5]) (rest := []) (cs1 := 0) (ss1 := 0) X (c_X7_nameOf 5 (by omega) (by omega)) okX7_nameOf kw_3_222 kw_3_223 ⟨rfl, rfl⟩ ⟨Nat.le_of_ble_eq_true rfl, Nat.le_of_ble_eq_true rfl⟩ rfl rfl (Nat.le_of_ble_eq_true rfl) ⟨Nat.le_of_ble_eq_true rfl, Nat.le_of_ble_eq_true rfl⟩ rfl rfl dX7_readWord_11 rfl (fun z72 M73 P74 => ?_)
  obtain ⟨rfl, P74⟩ := P74
  obtain rfl : z72 = 5 := by omega
  refine G.str (i := 5) rfl ?_
  refine g_astore_n (n := 15) (L' := [(3, .ref (cA (100 + 5))), (2, gJ 5), (1, gJ 0), (4, gJ 0), (0, gA n0 159)]) X dX7_readWord_14 rfl (by decide) rfl rfl ?_
  refine g_iconst (n := 16) X dX7_readWord_15 rfl ?_
  refine g_istore (n := 18) (L' := [(4, gJ 0), (3, .ref (cA (100 + 5))), (2, gJ 5), (1, gJ 0), (0, gA n0 159)]) X dX7_readWord_16 (by decide) rfl rfl ?_
  refine g_iload (n := 20) X 0 dX7_readWord_18 rfl rfl ?_
  refine g_aload_n (n := 21) X 1 dX7_readWord_20 rfl rfl rfl ?_
  refine g_callSt (n := 24) (As := []) (rest := [gJ 0]) (cs1 := 0) (ss1 := 0) X 5 rfl c_J_len_5 okJ_len kw_3_235 ⟨kw_3_236, kw_3_237⟩ ⟨rfl, rfl⟩ ⟨Nat.le_of_ble_eq_true rfl, Nat.le_of_ble_eq_true rfl⟩ rfl rfl (Nat.le_of_ble_eq_true rfl) ⟨Nat.le_of_ble_eq_true rfl, Nat.le_of_ble_eq_true rfl⟩ rfl rfl dX7_readWord_21 rfl (fun z75 M76 P77 => ?_)
  obtain ⟨rfl, rfl⟩ := P77
  refine g_icmp_ge (n := 27) (tgt := 68) X dX7_readWord_24 (by decide) (by omega) (by omega) rfl (fun c78 => by exfalso; omega) (fun c78 => ?_)
  refine g_aload_n (n := 28) X 4 dX7_readWord_27 rfl rfl rfl ?_
  refine gg_7_2 (n := 31) (z := 0) X (by omega) (by omega) lay_159 kw_2_213 dX7_readWord_28 rfl f_159_2 ?_
  refine g_iload (n := 33) X 0 dX7_readWord_31 rfl rfl ?_
  refine g_iadd (n := 34) (z := 0) X dX7_readWord_33 rfl rfl ?_
  refine g_aload_n (n := 35) X 4 dX7_readWord_34 rfl rfl rfl ?_
  refine gg_7_1 (n := 38) (z := 0) X (by omega) (by omega) lay_159 kw_2_212 dX7_readWord_35 rfl f_159_1 ?_
  refine g_icmp_ge (n := 41) (tgt := 68) X dX7_readWord_38 (by decide) (by omega) (by omega) rfl (fun c79 => ?_) (fun c79 => by exfalso; omega)
  refine g_iload (n := 70) X 0 dX7_readWord_68 rfl rfl ?_
  refine g_aload_n (n := 71) X 1 dX7_readWord_70 rfl rfl rfl ?_
  refine g_callSt (n := 74) (As := []) (rest := [gJ 0]) (cs1 := 0) (ss1 := 0) X 5 rfl c_J_len_5 okJ_len kw_3_235 ⟨kw_3_236, kw_3_237⟩ ⟨rfl, rfl⟩ ⟨Nat.le_of_ble_eq_true rfl, Nat.le_of_ble_eq_true rfl⟩ rfl rfl (Nat.le_of_ble_eq_true rfl) ⟨Nat.le_of_ble_eq_true rfl, Nat.le_of_ble_eq_true rfl⟩ rfl rfl dX7_readWord_71 rfl (fun z80 M81 P82 => ?_)
  obtain ⟨rfl, rfl⟩ := P82
  refine g_icmp_ne (n := 77) (tgt := 90) X dX7_readWord_74 (by decide) (by omega) (by omega) rfl (fun c83 => ?_) (fun c83 => by exfalso; omega)
  refine g_iload_n (n := 91) X 3 dX7_readWord_90 rfl rfl rfl ?_
  refine g_iload (n := 93) X 0 dX7_readWord_91 rfl rfl ?_
  refine g_mmax (n := 96) X kw_4_43 kw_3_153 kw_1_14 kw_3_154 (by omega) (by omega) (Nat.le_of_ble_eq_true rfl) (Nat.le_of_ble_eq_true rfl) (Nat.le_of_ble_eq_true rfl) (Nat.le_of_ble_eq_true rfl) dX7_readWord_93 rfl (fun x84 hx84 => ?_)
  obtain rfl : x84 = 0 := by omega
  refine g_istore_n (n := 97) (L' := [(1, gJ 0), (4, gJ 0), (3, .ref (cA (100 + 5))), (2, gJ 5), (0, gA n0 159)]) X dX7_readWord_96 rfl (by decide) rfl rfl ?_
  refine g_iinc (n := 100) (w := 6) (L' := [(2, gJ 6), (1, gJ 0), (4, gJ 0), (3, .ref (cA (100 + 5))), (0, gA n0 159)]) X 3 dX7_readWord_97 rfl rfl (by decide) rfl rfl ?_
  refine g_goto (tgt := 4) X dX7_readWord_100 (by decide) ?_
  refine g_iload_n (n := 5) X 0 dX7_readWord_4 rfl rfl rfl ?_
  refine g_bipush (n := 7) X dX7_readWord_5 (by decide +kernel) rfl ?_
  refine g_icmp_ge (n := 10) (tgt := 103) X dX7_readWord_7 (by decide) (by omega) (by omega) rfl (fun c85 => by exfalso; omega) (fun c85 => ?_)
  refine g_iload_n (n := 11) X 0 dX7_readWord_10 rfl rfl rfl ?_
  refine g_callSs (n := 14) (As := [gJ 6]) (rest := []) (cs1 := 0) (ss1 := 0) X (c_X7_nameOf 6 (by omega) (by omega)) okX7_nameOf kw_3_222 kw_3_223 ⟨rfl, rfl⟩ ⟨Nat.le_of_ble_eq_true rfl, Nat.le_of_ble_eq_true rfl⟩ rfl rfl (Nat.le_of_ble_eq_true rfl) ⟨Nat.le_of_ble_eq_true rfl, Nat.le_of_ble_eq_true rfl⟩ rfl rfl dX7_readWord_11 rfl (fun z86 M87 P88 => ?_)
  obtain ⟨rfl, P88⟩ := P88
  obtain rfl : z86 = 6 := by omega
  refine G.str (i := 6) rfl ?_
  refine g_astore_n (n := 15) (L' := [(3, .ref (cA (100 + 6))), (2, gJ 6), (1, gJ 0), (4, gJ 0), (0, gA n0 159)]) X dX7_readWord_14 rfl (by decide) rfl rfl ?_
  refine g_iconst (n := 16) X dX7_readWord_15 rfl ?_
  refine g_istore (n := 18) (L' := [(4, gJ 0), (3, .ref (cA (100 + 6))), (2, gJ 6), (1, gJ 0), (0, gA n0 159)]) X dX7_readWord_16 (by decide) rfl rfl ?_
  refine g_iload (n := 20) X 0 dX7_readWord_18 rfl rfl ?_
  refine g_aload_n (n := 21) X 1 dX7_readWord_20 rfl rfl rfl ?_
  refine g_callSt (n := 24) (As := []) (rest := [gJ 0]) (cs1 := 0) (ss1 := 0) X 6 rfl c_J_len_6 okJ_len kw_3_235 ⟨kw_3_236, kw_3_237⟩ ⟨rfl, rfl⟩ ⟨Nat.le_of_ble_eq_true rfl, Nat.le_of_ble_eq_true rfl⟩ rfl rfl (Nat.le_of_ble_eq_true rfl) ⟨Nat.le_of_ble_eq_true rfl, Nat.le_of_ble_eq_true rfl⟩ rfl rfl dX7_readWord_21 rfl (fun z89 M90 P91 => ?_)
  obtain ⟨rfl, rfl⟩ := P91
  refine g_icmp_ge (n := 27) (tgt := 68) X dX7_readWord_24 (by decide) (by omega) (by omega) rfl (fun c92 => by exfalso; omega) (fun c92 => ?_)
  refine g_aload_n (n := 28) X 4 dX7_readWord_27 rfl rfl rfl ?_
  refine gg_7_2 (n := 31) (z := 0) X (by omega) (by omega) lay_159 kw_2_213 dX7_readWord_28 rfl f_159_2 ?_
  refine g_iload (n := 33) X 0 dX7_readWord_31 rfl rfl ?_
  refine g_iadd (n := 34) (z := 0) X dX7_readWord_33 rfl rfl ?_
  refine g_aload_n (n := 35) X 4 dX7_readWord_34 rfl rfl rfl ?_
  refine gg_7_1 (n := 38) (z := 0) X (by omega) (by omega) lay_159 kw_2_212 dX7_readWord_35 rfl f_159_1 ?_
  refine g_icmp_ge (n := 41) (tgt := 68) X dX7_readWord_38 (by decide) (by omega) (by omega) rfl (fun c93 => ?_) (fun c93 => by exfalso; omega)
  refine g_iload (n := 70) X 0 dX7_readWord_68 rfl rfl ?_
  refine g_aload_n (n := 71) X 1 dX7_readWord_70 rfl rfl rfl ?_
  refine g_callSt (n := 74) (As := []) (rest := [gJ 0]) (cs1 := 0) (ss1 := 0) X 6 rfl c_J_len_6 okJ_len kw_3_235 ⟨kw_3_236, kw_3_237⟩ ⟨rfl, rfl⟩ ⟨Nat.le_of_ble_eq_true rfl, Nat.le_of_ble_eq_true rfl⟩ rfl rfl (Nat.le_of_ble_eq_true rfl) ⟨Nat.le_of_ble_eq_true rfl, Nat.le_of_ble_eq_true rfl⟩ rfl rfl dX7_readWord_71 rfl (fun z94 M95 P96 => ?_)
  obtain ⟨rfl, rfl⟩ := P96
  refine g_icmp_ne (n := 77) (tgt := 90) X dX7_readWord_74 (by decide) (by omega) (by omega) rfl (fun c97 => ?_) (fun c97 => by exfalso; omega)
  refine g_iload_n (n := 91) X 3 dX7_readWord_90 rfl rfl rfl ?_
  refine g_iload (n := 93) X 0 dX7_readWord_91 rfl rfl ?_
  refine g_mmax (n := 96) X kw_4_43 kw_3_153 kw_1_14 kw_3_154 (by omega) (by omega) (Nat.le_of_ble_eq_true rfl) (Nat.le_of_ble_eq_true rfl) (Nat.le_of_ble_eq_true rfl) (Nat.le_of_ble_eq_true rfl) dX7_readWord_93 rfl (fun x98 hx98 => ?_)
  obtain rfl : x98 = 0 := by omega
  refine g_istore_n (n := 97) (L' := [(1, gJ 0), (4, gJ 0), (3, .ref (cA (100 + 6))), (2, gJ 6), (0, gA n0 159)]) X dX7_readWord_96 rfl (by decide) rfl rfl ?_
  refine g_iinc (n := 100) (w := 7) (L' := [(2, gJ 7), (1, gJ 0), (4, gJ 0), (3, .ref (cA (100 + 6))), (0, gA n0 159)]) X 3 dX7_readWord_97 rfl rfl (by decide) rfl rfl ?_
  refine g_goto (tgt := 4) X dX7_readWord_100 (by decide) ?_
  refine g_iload_n (n := 5) X 0 dX7_readWord_4 rfl rfl rfl ?_
  refine g_bipush (n := 7) X dX7_readWord_5 (by decide +kernel) rfl ?_
  refine g_icmp_ge (n := 10) (tgt := 103) X dX7_readWord_7 (by decide) (by omega) (by omega) rfl (fun c99 => by exfalso; omega) (fun c99 => ?_)
  refine g_iload_n (n := 11) X 0 dX7_readWord_10 rfl rfl rfl ?_
  refine g_callSs (n := 14) (As := [gJ 7]) (rest := []) (cs1 := 0) (ss1 := 0) X (c_X7_nameOf 7 (by omega) (by omega)) okX7_nameOf kw_3_222 kw_3_223 ⟨rfl, rfl⟩ ⟨Nat.le_of_ble_eq_true rfl, Nat.le_of_ble_eq_true rfl⟩ rfl rfl (Nat.le_of_ble_eq_true rfl) ⟨Nat.le_of_ble_eq_true rfl, Nat.le_of_ble_eq_true rfl⟩ rfl rfl dX7_readWord_11 rfl (fun z100 M101 P102 => ?_)
  obtain ⟨rfl, P102⟩ := P102
  obtain rfl : z100 = 7 := by omega
  refine G.str (i := 7) rfl ?_
  refine g_astore_n (n := 15) (L' := [(3, .ref (cA (100 + 7))), (2, gJ 7), (1, gJ 0), (4, gJ 0), (0, gA n0 159)]) X dX7_readWord_14 rfl (by decide) rfl rfl ?_
  refine g_iconst (n := 16) X dX7_readWord_15 rfl ?_
  refine g_istore (n := 18) (L' := [(4, gJ 0), (3, .ref (cA (100 + 7))), (2, gJ 7), (1, gJ 0), (0, gA n0 159)]) X dX7_readWord_16 (by decide) rfl rfl ?_
  refine g_iload (n := 20) X 0 dX7_readWord_18 rfl rfl ?_
  refine g_aload_n (n := 21) X 1 dX7_readWord_20 rfl rfl rfl ?_
  refine g_callSt (n := 24) (As := []) (rest := [gJ 0]) (cs1 := 0) (ss1 := 0) X 7 rfl c_J_len_7 okJ_len kw_3_235 ⟨kw_3_236, kw_3_237⟩ ⟨rfl, rfl⟩ ⟨Nat.le_of_ble_eq_true rfl, Nat.le_of_ble_eq_true rfl⟩ rfl rfl (Nat.le_of_ble_eq_true rfl) ⟨Nat.le_of_ble_eq_true rfl, Nat.le_of_ble_eq_true rfl⟩ rfl rfl dX7_readWord_21 rfl (fun z103 M104 P105 => ?_)
  obtain ⟨rfl, rfl⟩ := P105
  refine g_icmp_ge (n := 27) (tgt := 68) X dX7_readWord_24 (by decide) (by omega) (by omega) rfl (fun c106 => by exfalso; omega) (fun c106 => ?_)
  refine g_aload_n (n := 28) X 4 dX7_readWord_27 rfl rfl rfl ?_
  refine gg_7_2 (n := 31) (z := 0) X (by omega) (by omega) lay_159 kw_2_213 dX7_readWord_28 rfl f_159_2 ?_
  refine g_iload (n := 33) X 0 dX7_readWord_31 rfl rfl ?_
  refine g_iadd (n := 34) (z := 0) X dX7_readWord_33 rfl rfl ?_
  refine g_aload_n (n := 35) X 4 dX7_readWord_34 rfl rfl rfl ?_
  refine gg_7_1 (n := 38) (z := 0) X (by omega) (by omega) lay_159 kw_2_212 dX7_readWord_35 rfl f_159_1 ?_
  refine g_icmp_ge (n := 41) (tgt := 68) X dX7_readWord_38 (by decide) (by omega) (by omega) rfl (fun c107 => ?_) (fun c107 => by exfalso; omega)
  refine g_iload (n := 70) X 0 dX7_readWord_68 rfl rfl ?_
  refine g_aload_n (n := 71) X 1 dX7_readWord_70 rfl rfl rfl ?_
  refine g_callSt (n := 74) (As := []) (rest := [gJ 0]) (cs1 := 0) (ss1 := 0) X 7 rfl c_J_len_7 okJ_len kw_3_235 ⟨kw_3_236, kw_3_237⟩ ⟨rfl, rfl⟩ ⟨Nat.le_of_ble_eq_true rfl, Nat.le_of_ble_eq_true rfl⟩ rfl rfl (Nat.le_of_ble_eq_true rfl) ⟨Nat.le_of_ble_eq_true rfl, Nat.le_of_ble_eq_true rfl⟩ rfl rfl dX7_readWord_71 rfl (fun z108 M109 P110 => ?_)
  obtain ⟨rfl, rfl⟩ := P110
  refine g_icmp_ne (n := 77) (tgt := 90) X dX7_readWord_74 (by decide) (by omega) (by omega) rfl (fun c111 => ?_) (fun c111 => by exfalso; omega)
  refine g_iload_n (n := 91) X 3 dX7_readWord_90 rfl rfl rfl ?_
  refine g_iload (n := 93) X 0 dX7_readWord_91 rfl rfl ?_
  refine g_mmax (n := 96) X kw_4_43 kw_3_153 kw_1_14 kw_3_154 (by omega) (by omega) (Nat.le_of_ble_eq_true rfl) (Nat.le_of_ble_eq_true rfl) (Nat.le_of_ble_eq_true rfl) (Nat.le_of_ble_eq_true rfl) dX7_readWord_93 rfl (fun x112 hx112 => ?_)
  obtain rfl : x112 = 0 := by omega
  refine g_istore_n (n := 97) (L' := [(1, gJ 0), (4, gJ 0), (3, .ref (cA (100 + 7))), (2, gJ 7), (0, gA n0 159)]) X dX7_readWord_96 rfl (by decide) rfl rfl ?_
  refine g_iinc (n := 100) (w := 8) (L' := [(2, gJ 8), (1, gJ 0), (4, gJ 0), (3, .ref (cA (100 + 7))), (0, gA n0 159)]) X 3 dX7_readWord_97 rfl rfl (by decide) rfl rfl ?_
  refine g_goto (tgt := 4) X dX7_readWord_100 (by decide) ?_
  refine g_iload_n (n := 5) X 0 dX7_readWord_4 rfl rfl rfl ?_
  refine g_bipush (n := 7) X dX7_readWord_5 (by decide +kernel) rfl ?_
  refine g_icmp_ge (n := 10) (tgt := 103) X dX7_readWord_7 (by decide) (by omega) (by omega) rfl (fun c113 => by exfalso; omega) (fun c113 => ?_)
  refine g_iload_n (n := 11) X 0 dX7_readWord_10 rfl rfl rfl ?_
  refine g_callSs (n := 14) (As := [gJ 8]) (rest := []) (cs1 := 0) (ss1 := 0) X (c_X7_nameOf 8 (by omega) (by omega)) okX7_nameOf kw_3_222 kw_3_223 ⟨rfl, rfl⟩ ⟨Nat.le_of_ble_eq_true rfl, Nat.le_of_ble_eq_true rfl⟩ rfl rfl (Nat.le_of_ble_eq_true rfl) ⟨Nat.le_of_ble_eq_true rfl, Nat.le_of_ble_eq_true rfl⟩ rfl rfl dX7_readWord_11 rfl (fun z114 M115 P116 => ?_)
  obtain ⟨rfl, P116⟩ := P116
  obtain rfl : z114 = 8 := by omega
  refine G.str (i := 8) rfl ?_
  refine g_astore_n (n := 15) (L' := [(3, .ref (cA (100 + 8))), (2, gJ 8), (1, gJ 0), (4, gJ 0), (0, gA n0 159)]) X dX7_readWord_14 rfl (by decide) rfl rfl ?_
  refine g_iconst (n := 16) X dX7_readWord_15 rfl ?_
  refine g_istore (n := 18) (L' := [(4, gJ 0), (3, .ref (cA (100 + 8))), (2, gJ 8), (1, gJ 0), (0, gA n0 159)]) X dX7_readWord_16 (by decide) rfl rfl ?_
  refine g_iload (n := 20) X 0 dX7_readWord_18 rfl rfl ?_
  refine g_aload_n (n := 21) X 1 dX7_readWord_20 rfl rfl rfl ?_
  refine g_callSt (n := 24) (As := []) (rest := [gJ 0]) (cs1 := 0) (ss1 := 0) X 8 rfl c_J_len_8 okJ_len kw_3_235 ⟨kw_3_236, kw_3_237⟩ ⟨rfl, rfl⟩ ⟨Nat.le_of_ble_eq_true rfl, Nat.le_of_ble_eq_true rfl⟩ rfl rfl (Nat.le_of_ble_eq_true rfl) ⟨Nat.le_of_ble_eq_true rfl, Nat.le_of_ble_eq_true rfl⟩ rfl rfl dX7_readWord_21 rfl (fun z117 M118 P119 => ?_)
  obtain ⟨rfl, rfl⟩ := P119
  refine g_icmp_ge (n := 27) (tgt := 68) X dX7_readWord_24 (by decide) (by omega) (by omega) rfl (fun c120 => by exfalso; omega) (fun c120 => ?_)
  refine g_aload_n (n := 28) X 4 dX7_readWord_27 rfl rfl rfl ?_
  refine gg_7_2 (n := 31) (z := 0) X (by omega) (by omega) lay_159 kw_2_213 dX7_readWord_28 rfl f_159_2 ?_
  refine g_iload (n := 33) X 0 dX7_readWord_31 rfl rfl ?_
  refine g_iadd (n := 34) (z := 0) X dX7_readWord_33 rfl rfl ?_
  refine g_aload_n (n := 35) X 4 dX7_readWord_34 rfl rfl rfl ?_
  refine gg_7_1 (n := 38) (z := 0) X (by omega) (by omega) lay_159 kw_2_212 dX7_readWord_35 rfl f_159_1 ?_
  refine g_icmp_ge (n := 41) (tgt := 68) X dX7_readWord_38 (by decide) (by omega) (by omega) rfl (fun c121 => ?_) (fun c121 => by exfalso; omega)
  refine g_iload (n := 70) X 0 dX7_readWord_68 rfl rfl ?_
  refine g_aload_n (n := 71) X 1 dX7_readWord_70 rfl rfl rfl ?_
  refine g_callSt (n := 74) (As := []) (rest := [gJ 0]) (cs1 := 0) (ss1 := 0) X 8 rfl c_J_len_8 okJ_len kw_3_235 ⟨kw_3_236, kw_3_237⟩ ⟨rfl, rfl⟩ ⟨Nat.le_of_ble_eq_true rfl, Nat.le_of_ble_eq_true rfl⟩ rfl rfl (Nat.le_of_ble_eq_true rfl) ⟨Nat.le_of_ble_eq_true rfl, Nat.le_of_ble_eq_true rfl⟩ rfl rfl dX7_readWord_71 rfl (fun z122 M123 P124 => ?_)
  obtain ⟨rfl, rfl⟩ := P124
  refine g_icmp_ne (n := 77) (tgt := 90) X dX7_readWord_74 (by decide) (by omega) (by omega) rfl (fun c125 => ?_) (fun c125 => by exfalso; omega)
  refine g_iload_n (n := 91) X 3 dX7_readWord_90 rfl rfl rfl ?_
  refine g_iload (n := 93) X 0 dX7_readWord_91 rfl rfl ?_
  refine g_mmax (n := 96) X kw_4_43 kw_3_153 kw_1_14 kw_3_154 (by omega) (by omega) (Nat.le_of_ble_eq_true rfl) (Nat.le_of_ble_eq_true rfl) (Nat.le_of_ble_eq_true rfl) (Nat.le_of_ble_eq_true rfl) dX7_readWord_93 rfl (fun x126 hx126 => ?_)
  obtain rfl : x126 = 0 := by omega
  refine g_istore_n (n := 97) (L' := [(1, gJ 0), (4, gJ 0), (3, .ref (cA (100 + 8))), (2, gJ 8), (0, gA n0 159)]) X dX7_readWord_96 rfl (by decide) rfl rfl ?_
  refine g_iinc (n := 100) (w := 9) (L' := [(2, gJ 9), (1, gJ 0), (4, gJ 0), (3, .ref (cA (100 + 8))), (0, gA n0 159)]) X 3 dX7_readWord_97 rfl rfl (by decide) rfl rfl ?_
  refine g_goto (tgt := 4) X dX7_readWord_100 (by decide) ?_
  refine g_iload_n (n := 5) X 0 dX7_readWord_4 rfl rfl rfl ?_
  refine g_bipush (n := 7) X dX7_readWord_5 (by decide +kernel) rfl ?_
  refine g_icmp_ge (n := 10) (tgt := 103) X dX7_readWord_7 (by decide) (by omega) (by omega) rfl (fun c127 => by exfalso; omega) (fun c127 => ?_)
  refine g_iload_n (n := 11) X 0 dX7_readWord_10 rfl rfl rfl ?_
  refine g_callSs (n := 14) (As := [gJ 9]) (rest := []) (cs1 := 0) (ss1 := 0) X (c_X7_nameOf 9 (by omega) (by omega)) okX7_nameOf kw_3_222 kw_3_223 ⟨rfl, rfl⟩ ⟨Nat.le_of_ble_eq_true rfl, Nat.le_of_ble_eq_true rfl⟩ rfl rfl (Nat.le_of_ble_eq_true rfl) ⟨Nat.le_of_ble_eq_true rfl, Nat.le_of_ble_eq_true rfl⟩ rfl rfl dX7_readWord_11 rfl (fun z128 M129 P130 => ?_)
  obtain ⟨rfl, P130⟩ := P130
  obtain rfl : z128 = 9 := by omega
  refine G.str (i := 9) rfl ?_
  refine g_astore_n (n := 15) (L' := [(3, .ref (cA (100 + 9))), (2, gJ 9), (1, gJ 0), (4, gJ 0), (0, gA n0 159)]) X dX7_readWord_14 rfl (by decide) rfl rfl ?_
  refine g_iconst (n := 16) X dX7_readWord_15 rfl ?_
  refine g_istore (n := 18) (L' := [(4, gJ 0), (3, .ref (cA (100 + 9))), (2, gJ 9), (1, gJ 0), (0, gA n0 159)]) X dX7_readWord_16 (by decide) rfl rfl ?_
  refine g_iload (n := 20) X 0 dX7_readWord_18 rfl rfl ?_
  refine g_aload_n (n := 21) X 1 dX7_readWord_20 rfl rfl rfl ?_
  refine g_callSt (n := 24) (As := []) (rest := [gJ 0]) (cs1 := 0) (ss1 := 0) X 9 rfl c_J_len_9 okJ_len kw_3_235 ⟨kw_3_236, kw_3_237⟩ ⟨rfl, rfl⟩ ⟨Nat.le_of_ble_eq_true rfl, Nat.le_of_ble_eq_true rfl⟩ rfl rfl (Nat.le_of_ble_eq_true rfl) ⟨Nat.le_of_ble_eq_true rfl, Nat.le_of_ble_eq_true rfl⟩ rfl rfl dX7_readWord_21 rfl (fun z131 M132 P133 => ?_)
  obtain ⟨rfl, rfl⟩ := P133
  refine g_icmp_ge (n := 27) (tgt := 68) X dX7_readWord_24 (by decide) (by omega) (by omega) rfl (fun c134 => by exfalso; omega) (fun c134 => ?_)
  refine g_aload_n (n := 28) X 4 dX7_readWord_27 rfl rfl rfl ?_
  refine gg_7_2 (n := 31) (z := 0) X (by omega) (by omega) lay_159 kw_2_213 dX7_readWord_28 rfl f_159_2 ?_
  refine g_iload (n := 33) X 0 dX7_readWord_31 rfl rfl ?_
  refine g_iadd (n := 34) (z := 0) X dX7_readWord_33 rfl rfl ?_
  refine g_aload_n (n := 35) X 4 dX7_readWord_34 rfl rfl rfl ?_
  refine gg_7_1 (n := 38) (z := 0) X (by omega) (by omega) lay_159 kw_2_212 dX7_readWord_35 rfl f_159_1 ?_
  refine g_icmp_ge (n := 41) (tgt := 68) X dX7_readWord_38 (by decide) (by omega) (by omega) rfl (fun c135 => ?_) (fun c135 => by exfalso; omega)
  refine g_iload (n := 70) X 0 dX7_readWord_68 rfl rfl ?_
  refine g_aload_n (n := 71) X 1 dX7_readWord_70 rfl rfl rfl ?_
  refine g_callSt (n := 74) (As := []) (rest := [gJ 0]) (cs1 := 0) (ss1 := 0) X 9 rfl c_J_len_9 okJ_len kw_3_235 ⟨kw_3_236, kw_3_237⟩ ⟨rfl, rfl⟩ ⟨Nat.le_of_ble_eq_true rfl, Nat.le_of_ble_eq_true rfl⟩ rfl rfl (Nat.le_of_ble_eq_true rfl) ⟨Nat.le_of_ble_eq_true rfl, Nat.le_of_ble_eq_true rfl⟩ rfl rfl dX7_readWord_71 rfl (fun z136 M137 P138 => ?_)
  obtain ⟨rfl, rfl⟩ := P138
  refine g_icmp_ne (n := 77) (tgt := 90) X dX7_readWord_74 (by decide) (by omega) (by omega) rfl (fun c139 => ?_) (fun c139 => by exfalso; omega)
  refine g_iload_n (n := 91) X 3 dX7_readWord_90 rfl rfl rfl ?_
  refine g_iload (n := 93) X 0 dX7_readWord_91 rfl rfl ?_
  refine g_mmax (n := 96) X kw_4_43 kw_3_153 kw_1_14 kw_3_154 (by omega) (by omega) (Nat.le_of_ble_eq_true rfl) (Nat.le_of_ble_eq_true rfl) (Nat.le_of_ble_eq_true rfl) (Nat.le_of_ble_eq_true rfl) dX7_readWord_93 rfl (fun x140 hx140 => ?_)
  obtain rfl : x140 = 0 := by omega
  refine g_istore_n (n := 97) (L' := [(1, gJ 0), (4, gJ 0), (3, .ref (cA (100 + 9))), (2, gJ 9), (0, gA n0 159)]) X dX7_readWord_96 rfl (by decide) rfl rfl ?_
  refine g_iinc (n := 100) (w := 10) (L' := [(2, gJ 10), (1, gJ 0), (4, gJ 0), (3, .ref (cA (100 + 9))), (0, gA n0 159)]) X 3 dX7_readWord_97 rfl rfl (by decide) rfl rfl ?_
  refine g_goto (tgt := 4) X dX7_readWord_100 (by decide) ?_
  refine g_iload_n (n := 5) X 0 dX7_readWord_4 rfl rfl rfl ?_
  refine g_bipush (n := 7) X dX7_readWord_5 (by decide +kernel) rfl ?_
  refine g_icmp_ge (n := 10) (tgt := 103) X dX7_readWord_7 (by decide) (by omega) (by omega) rfl (fun c141 => ?_) (fun c141 => by exfalso; omega)
  refine g_aload_n (n := 104) X 4 dX7_readWord_103 rfl rfl rfl ?_
  refine g_dup (n := 105) X dX7_readWord_104 rfl rfl ?_
  refine gg_7_2 (n := 108) (z := 0) X (by omega) (by omega) lay_159 kw_2_213 dX7_readWord_105 rfl f_159_2 ?_
  refine g_iload_n (n := 109) X 1 dX7_readWord_108 rfl rfl rfl ?_
  refine g_iadd (n := 110) (z := 0) X dX7_readWord_109 rfl rfl ?_
  refine gp_7_2 (n := 113) X (by omega) (by omega) lay_159 kw_2_213 dX7_readWord_110 rfl ?_
  refine G.nm (fun M142 e143 => ?_)
  refine g_iconst (n := 114) X dX7_readWord_113 rfl ?_
  exact g_ireturn X hr dX7_readWord_114 (by exact ⟨by omega, ((congrFun (congrFun e143 _) _).trans (gset_eq _ _ _ _)), ((congrFun (congrFun e143 _) _).trans ((gset_ne (by omega)).trans f_159_1)), fun a h0 => ((congrFun e143 a).trans ((gset_off a (by omega)).trans rfl))⟩)
theorem dX7_readClause_0 : decode cX7_readClause 0 = .ok (.aload_n 0, 1) := by decide +kernel
theorem dX7_readClause_1 : decode cX7_readClause 1 = .ok (.invokevirtual 34, 3) := by decide +kernel
theorem kw_3_218 : (Jvm.Cond.methodLink "ParishUnion$Reader" (34 : Nat) ({ cls := "ParishUnion$Reader", name := "readWord", desc := "()I" } : Jvm.MethodName)) ∈ gT := gT_of (tb_3 _ (List.mem_of_getElem? (i := 218) rfl)) rfl
theorem kw_3_221 : (Jvm.Cond.code ({ cls := "ParishUnion$Reader", name := "readWord", desc := "()I" } : Jvm.MethodName) prog_9_method_4_code (5 : Nat) (Option.some Jvm.ClassFile.FieldType.int)) ∈ gT := gT_of (tb_3 _ (List.mem_of_getElem? (i := 221) rfl)) rfl
theorem okX7_readWord : gQok yX7_readWord cX7_readWord 5 (Option.some Jvm.ClassFile.FieldType.int) 0 := ⟨kw_3_221, kw_1_12, by decide +kernel, by decide +kernel, by decide +kernel⟩
theorem kw_3_220 : (Jvm.Cond.instanceMethod ({ cls := "ParishUnion$Reader", name := "readWord", desc := "()I" } : Jvm.MethodName)) ∈ gT := gT_of (tb_3 _ (List.mem_of_getElem? (i := 220) rfl)) rfl
theorem kw_0_8 : (Jvm.Cond.selects "ParishUnion$Reader" ({ cls := "ParishUnion$Reader", name := "readWord", desc := "()I" } : Jvm.MethodName) ({ cls := "ParishUnion$Reader", name := "readWord", desc := "()I" } : Jvm.MethodName)) ∈ gT := gT_of (tb_0 _ (List.mem_of_getElem? (i := 8) rfl)) rfl
theorem dX7_readClause_4 : decode cX7_readClause 4 = .ok (.istore_n 2, 1) := by decide +kernel
theorem dX7_readClause_5 : decode cX7_readClause 5 = .ok (.iload_n 2, 1) := by decide +kernel
theorem dX7_readClause_6 : decode cX7_readClause 6 = .ok (.iconst (-1), 1) := by decide +kernel
theorem dX7_readClause_7 : decode cX7_readClause 7 = .ok (.if_icmp .eq 12, 3) := by decide +kernel
theorem dX7_readClause_19 : decode cX7_readClause 19 = .ok (.iconst 0, 1) := by decide +kernel
theorem dX7_readClause_20 : decode cX7_readClause 20 = .ok (.ireturn, 1) := by decide +kernel
set_option maxRecDepth 100000 in
set_option maxHeartbeats 4000000 in
theorem c_X7_readClause {l : Launch} {n0 : Nat} {D : va_G} {cA : Nat → ClassId} {M : gM}  {sz : Nat} (hsz : 206 ≤ sz) (f_159_1 : M 159 1 = 0) (f_159_2 : M 159 2 = 0) : Met l yX7_readClause (gWsOf yX7_readClause cX7_readClause 5 (Option.some Jvm.ClassFile.FieldType.boolean)) { frames := 7, cells := 0, slots := 0, locals := 150 } (gPc n0 D cA [gA n0 159, gA n0 87] M sz) (gQi n0 D cA sz (fun z M1 => (z = 0) ∧ M1 159 2 = 0 ∧ M1 159 1 = 0 ∧ ∀ a : Int, a ≠ 159 → M1 a = M a)) 0 0 (fun q => n0 ≤ q) := by
  refine gMet_of [gA n0 159, gA n0 87] (by decide) (Nat.le_of_ble_eq_true rfl) ?_
  intro p e s m args below meth cd X hr hm
  have X : gCx p s m args meth cd n0 D cA "ParishUnion$Reader" cX7_readClause 5 := X
  show G p l e ({ frames := 7, cells := 0, slots := 0, locals := 150 } : Room) s m args below meth cd n0 D cA 5 (MQ below (gQi n0 D cA sz (fun z M1 => (z = 0) ∧ M1 159 2 = 0 ∧ M1 159 1 = 0 ∧ ∀ a : Int, a ≠ 159 → M1 a = M a)) args s 0 0 (fun q => n0 ≤ q)) 0 0 M sz 0 [(0, gA n0 159), (1, gA n0 87)] []
  refine g_aload_n (n := 1) X 0 dX7_readClause_0 rfl rfl rfl ?_
  refine g_callVi (n := 4) (As := []) (rest := []) (cs1 := 0) (ss1 := 0) X (c_X7_readWord (by omega) f_159_1 f_159_2) okX7_readWord kw_3_218 ⟨kw_3_220, kw_0_8⟩ ⟨rfl, rfl⟩ ⟨Nat.le_of_ble_eq_true rfl, Nat.le_of_ble_eq_true rfl⟩ rfl (by omega) (by omega) lay_159 rfl rfl (Nat.le_of_ble_eq_true rfl) ⟨Nat.le_of_ble_eq_true rfl, Nat.le_of_ble_eq_true rfl⟩ rfl rfl dX7_readClause_1 rfl (fun z1 M2 P3 => ?_)
  obtain ⟨P3, g5, g6, F4⟩ := P3
  obtain rfl : z1 = -1 := P3
  refine g_istore_n (n := 5) (L' := [(2, gJ (-1)), (0, gA n0 159), (1, gA n0 87)]) X dX7_readClause_4 rfl (by decide) rfl rfl ?_
  refine g_iload_n (n := 6) X 0 dX7_readClause_5 rfl rfl rfl ?_
  refine g_iconst (n := 7) X dX7_readClause_6 rfl ?_
  refine g_icmp_eq (n := 10) (tgt := 19) X dX7_readClause_7 (by decide) (by omega) (by omega) rfl (fun c7 => ?_) (fun c7 => by exfalso; omega)
  refine g_iconst (n := 20) X dX7_readClause_19 rfl ?_
  exact g_zreturn X (by omega) hr dX7_readClause_20 (by exact ⟨by omega, g5, g6, fun a h0 => ((F4 a (by omega)).trans rfl)⟩)
theorem dX7_read_0 : decode cX7_read 0 = .ok (.aload_n 0, 1) := by decide +kernel
theorem dX7_read_1 : decode cX7_read 1 = .ok (.aload_n 1, 1) := by decide +kernel
theorem dX7_read_2 : decode cX7_read 2 = .ok (.getfield 15, 3) := by decide +kernel
theorem kw_2_72 : (Jvm.Cond.fieldLink "ParishUnion$Reader" (15 : Nat) "ParishUnion$Act" "text" "[B") ∈ gT := gT_of (tb_2 _ (List.mem_of_getElem? (i := 72) rfl)) rfl
theorem dX7_read_5 : decode cX7_read 5 = .ok (.putfield 9, 3) := by decide +kernel
theorem dX7_read_8 : decode cX7_read 8 = .ok (.aload_n 0, 1) := by decide +kernel
theorem dX7_read_9 : decode cX7_read 9 = .ok (.aload_n 1, 1) := by decide +kernel
theorem dX7_read_10 : decode cX7_read 10 = .ok (.getfield 18, 3) := by decide +kernel
theorem kw_2_81 : (Jvm.Cond.fieldLink "ParishUnion$Reader" (18 : Nat) "ParishUnion$Act" "size" "I") ∈ gT := gT_of (tb_2 _ (List.mem_of_getElem? (i := 81) rfl)) rfl
theorem dX7_read_13 : decode cX7_read 13 = .ok (.putfield 22, 3) := by decide +kernel
theorem dX7_read_16 : decode cX7_read 16 = .ok (.aload_n 0, 1) := by decide +kernel
theorem dX7_read_17 : decode cX7_read 17 = .ok (.iconst 0, 1) := by decide +kernel
theorem dX7_read_18 : decode cX7_read 18 = .ok (.putfield 23, 3) := by decide +kernel
theorem dX7_read_21 : decode cX7_read 21 = .ok (.iconst 0, 1) := by decide +kernel
theorem dX7_read_22 : decode cX7_read 22 = .ok (.istore_n 2, 1) := by decide +kernel
theorem dX7_read_23 : decode cX7_read 23 = .ok (.iload_n 2, 1) := by decide +kernel
theorem dX7_read_24 : decode cX7_read 24 = .ok (.bipush 8, 2) := by decide +kernel
theorem dX7_read_26 : decode cX7_read 26 = .ok (.if_icmp .ge 55, 3) := by decide +kernel
theorem dX7_read_29 : decode cX7_read 29 = .ok (.aload_n 0, 1) := by decide +kernel
theorem dX7_read_30 : decode cX7_read 30 = .ok (.aload_n 1, 1) := by decide +kernel
theorem dX7_read_31 : decode cX7_read 31 = .ok (.invokevirtual 26, 3) := by decide +kernel
theorem kw_3_214 : (Jvm.Cond.methodLink "ParishUnion$Reader" (26 : Nat) ({ cls := "ParishUnion$Reader", name := "readClause", desc := "(LParishUnion$Act;)Z" } : Jvm.MethodName)) ∈ gT := gT_of (tb_3 _ (List.mem_of_getElem? (i := 214) rfl)) rfl
theorem kw_3_217 : (Jvm.Cond.code ({ cls := "ParishUnion$Reader", name := "readClause", desc := "(LParishUnion$Act;)Z" } : Jvm.MethodName) prog_9_method_3_code (5 : Nat) (Option.some Jvm.ClassFile.FieldType.boolean)) ∈ gT := gT_of (tb_3 _ (List.mem_of_getElem? (i := 217) rfl)) rfl
theorem okX7_readClause : gQok yX7_readClause cX7_readClause 5 (Option.some Jvm.ClassFile.FieldType.boolean) 1 := ⟨kw_3_217, kw_1_12, by decide +kernel, by decide +kernel, by decide +kernel⟩
theorem kw_3_216 : (Jvm.Cond.instanceMethod ({ cls := "ParishUnion$Reader", name := "readClause", desc := "(LParishUnion$Act;)Z" } : Jvm.MethodName)) ∈ gT := gT_of (tb_3 _ (List.mem_of_getElem? (i := 216) rfl)) rfl
theorem kw_0_7 : (Jvm.Cond.selects "ParishUnion$Reader" ({ cls := "ParishUnion$Reader", name := "readClause", desc := "(LParishUnion$Act;)Z" } : Jvm.MethodName) ({ cls := "ParishUnion$Reader", name := "readClause", desc := "(LParishUnion$Act;)Z" } : Jvm.MethodName)) ∈ gT := gT_of (tb_0 _ (List.mem_of_getElem? (i := 7) rfl)) rfl
theorem dX7_read_34 : decode cX7_read 34 = .ok (.ifCond .ne 8, 3) := by decide +kernel
theorem dX7_read_37 : decode cX7_read 37 = .ok (.aload_n 0, 1) := by decide +kernel
theorem dX7_read_38 : decode cX7_read 38 = .ok (.getfield 23, 3) := by decide +kernel
theorem dX7_read_41 : decode cX7_read 41 = .ok (.ireturn, 1) := by decide +kernel
set_option maxRecDepth 100000 in
set_option maxHeartbeats 4000000 in
theorem c_X7_read {l : Launch} {n0 : Nat} {D : va_G} {cA : Nat → ClassId} {M : gM}  {sz : Nat} (hsz : 206 ≤ sz) (f_87_0 : M 87 0 = 89) (f_87_5 : M 87 5 = 0) : Met l yX7_read (gWsOf yX7_read cX7_read 3 (Option.some Jvm.ClassFile.FieldType.int)) { frames := 8, cells := 0, slots := 0, locals := 174 } (gPc n0 D cA [gA n0 159, gA n0 87] M sz) (gQi n0 D cA sz (fun z M1 => (z = 0) ∧ ∀ a : Int, a ≠ 159 → M1 a = M a)) 0 0 (fun q => n0 ≤ q) := by
  refine gMet_of [gA n0 159, gA n0 87] (by decide) (Nat.le_of_ble_eq_true rfl) ?_
  intro p e s m args below meth cd X hr hm
  have X : gCx p s m args meth cd n0 D cA "ParishUnion$Reader" cX7_read 3 := X
  show G p l e ({ frames := 8, cells := 0, slots := 0, locals := 174 } : Room) s m args below meth cd n0 D cA 3 (MQ below (gQi n0 D cA sz (fun z M1 => (z = 0) ∧ ∀ a : Int, a ≠ 159 → M1 a = M a)) args s 0 0 (fun q => n0 ≤ q)) 0 0 M sz 0 [(0, gA n0 159), (1, gA n0 87)] []
  refine g_aload_n (n := 1) X 0 dX7_read_0 rfl rfl rfl ?_
  refine g_aload_n (n := 2) X 1 dX7_read_1 rfl rfl rfl ?_
  refine gg_0_0 (n := 5) (z := 88) X (by omega) (by omega) lay_87 kw_2_72 dX7_read_2 rfl f_87_0 (by omega) ?_
  refine gp_7_0 (n := 8) X (by omega) (by omega) lay_159 kw_2_211 (by omega) dX7_read_5 rfl ?_
  refine G.nm (fun M1 e2 => ?_)
  refine g_aload_n (n := 9) X 0 dX7_read_8 rfl rfl rfl ?_
  refine g_aload_n (n := 10) X 1 dX7_read_9 rfl rfl rfl ?_
  refine gg_0_5 (n := 13) (z := 0) X (by omega) (by omega) lay_87 kw_2_81 dX7_read_10 rfl ((congrFun (congrFun e2 _) _).trans ((gset_ne (by omega)).trans f_87_5)) ?_
  refine gp_7_1 (n := 16) X (by omega) (by omega) lay_159 kw_2_212 dX7_read_13 rfl ?_
  refine G.nm (fun M3 e4 => ?_)
  refine g_aload_n (n := 17) X 0 dX7_read_16 rfl rfl rfl ?_
  refine g_iconst (n := 18) X dX7_read_17 rfl ?_
  refine gp_7_2 (n := 21) X (by omega) (by omega) lay_159 kw_2_213 dX7_read_18 rfl ?_
  refine G.nm (fun M5 e6 => ?_)
  refine g_iconst (n := 22) X dX7_read_21 rfl ?_
  refine g_istore_n (n := 23) (L' := [(2, gJ 0), (0, gA n0 159), (1, gA n0 87)]) X dX7_read_22 rfl (by decide) rfl rfl ?_
  refine g_iload_n (n := 24) X 0 dX7_read_23 rfl rfl rfl ?_
  refine g_bipush (n := 26) X dX7_read_24 (by decide +kernel) rfl ?_
  refine g_icmp_ge (n := 29) (tgt := 81) X dX7_read_26 (by decide) (by omega) (by omega) rfl (fun c7 => by exfalso; omega) (fun c7 => ?_)
  refine g_aload_n (n := 30) X 1 dX7_read_29 rfl rfl rfl ?_
  refine g_aload_n (n := 31) X 2 dX7_read_30 rfl rfl rfl ?_
  refine g_callVi (n := 34) (As := [gA n0 87]) (rest := []) (cs1 := 0) (ss1 := 0) X (c_X7_readClause (by omega) ((congrFun (congrFun e6 _) _).trans ((gset_ne (by omega)).trans ((congrFun (congrFun e4 _) _).trans (gset_eq _ _ _ _)))) ((congrFun (congrFun e6 _) _).trans (gset_eq _ _ _ _))) okX7_readClause kw_3_214 ⟨kw_3_216, kw_0_7⟩ ⟨rfl, rfl⟩ ⟨Nat.le_of_ble_eq_true rfl, Nat.le_of_ble_eq_true rfl⟩ rfl (by omega) (by omega) lay_159 rfl rfl (Nat.le_of_ble_eq_true rfl) ⟨Nat.le_of_ble_eq_true rfl, Nat.le_of_ble_eq_true rfl⟩ rfl rfl dX7_read_31 rfl (fun z8 M9 P10 => ?_)
  obtain ⟨P10, g12, g13, F11⟩ := P10
  obtain rfl : z8 = 0 := P10
  refine g_if_ne (n := 37) (tgt := 42) X dX7_read_34 (by decide) (by omega) rfl (fun c14 => by exfalso; omega) (fun c14 => ?_)
  refine g_aload_n (n := 38) X 1 dX7_read_37 rfl rfl rfl ?_
  refine gg_7_2 (n := 41) (z := 0) X (by omega) (by omega) lay_159 kw_2_213 dX7_read_38 rfl g12 ?_
  exact g_ireturn X hr dX7_read_41 (by exact ⟨by omega, fun a h0 => ((F11 a (by omega)).trans ((congrFun e6 a).trans ((gset_off a (by omega)).trans ((congrFun e4 a).trans ((gset_off a (by omega)).trans ((congrFun e2 a).trans ((gset_off a (by omega)).trans rfl)))))))⟩)
theorem dX0_begin_0 : decode cX0_begin 0 = .ok (.aload_n 1, 1) := by decide +kernel
theorem dX0_begin_1 : decode cX0_begin 1 = .ok (.iconst 0, 1) := by decide +kernel
theorem dX0_begin_2 : decode cX0_begin 2 = .ok (.aload_n 0, 1) := by decide +kernel
theorem dX0_begin_3 : decode cX0_begin 3 = .ok (.getfield 9, 3) := by decide +kernel
theorem dX0_begin_6 : decode cX0_begin 6 = .ok (.iconst 0, 1) := by decide +kernel
theorem dX0_begin_7 : decode cX0_begin 7 = .ok (.iload_n 2, 1) := by decide +kernel
theorem dX0_begin_8 : decode cX0_begin 8 = .ok (.invokestatic 28, 3) := by decide +kernel
theorem kw_3_207 : (Jvm.Cond.methodLink "ParishUnion$Act" (28 : Nat) ({ cls := "java/lang/System", name := "arraycopy", desc := "(Ljava/lang/Object;ILjava/lang/Object;II)V" } : Jvm.MethodName)) ∈ gT := gT_of (tb_3 _ (List.mem_of_getElem? (i := 207) rfl)) rfl
theorem dX0_begin_11 : decode cX0_begin 11 = .ok (.aload_n 0, 1) := by decide +kernel
theorem dX0_begin_12 : decode cX0_begin 12 = .ok (.iload_n 2, 1) := by decide +kernel
theorem dX0_begin_13 : decode cX0_begin 13 = .ok (.putfield 34, 3) := by decide +kernel
theorem kw_2_82 : (Jvm.Cond.fieldLink "ParishUnion$Act" (34 : Nat) "ParishUnion$Act" "size" "I") ∈ gT := gT_of (tb_2 _ (List.mem_of_getElem? (i := 82) rfl)) rfl
theorem dX0_begin_16 : decode cX0_begin 16 = .ok (.aload_n 0, 1) := by decide +kernel
theorem dX0_begin_17 : decode cX0_begin 17 = .ok (.iload_n 3, 1) := by decide +kernel
theorem dX0_begin_18 : decode cX0_begin 18 = .ok (.putfield 38, 3) := by decide +kernel
theorem kw_2_83 : (Jvm.Cond.fieldLink "ParishUnion$Act" (38 : Nat) "ParishUnion$Act" "week" "I") ∈ gT := gT_of (tb_2 _ (List.mem_of_getElem? (i := 83) rfl)) rfl
theorem dX0_begin_21 : decode cX0_begin 21 = .ok (.aload_n 0, 1) := by decide +kernel
theorem dX0_begin_22 : decode cX0_begin 22 = .ok (.iconst 0, 1) := by decide +kernel
theorem dX0_begin_23 : decode cX0_begin 23 = .ok (.putfield 41, 3) := by decide +kernel
theorem kw_2_85 : (Jvm.Cond.fieldLink "ParishUnion$Act" (41 : Nat) "ParishUnion$Act" "clauses" "I") ∈ gT := gT_of (tb_2 _ (List.mem_of_getElem? (i := 85) rfl)) rfl
theorem dX0_begin_26 : decode cX0_begin 26 = .ok (.iconst 0, 1) := by decide +kernel
theorem dX0_begin_27 : decode cX0_begin 27 = .ok (.istore 4, 2) := by decide +kernel
theorem dX0_begin_29 : decode cX0_begin 29 = .ok (.iload 4, 2) := by decide +kernel
theorem dX0_begin_31 : decode cX0_begin 31 = .ok (.bipush 10, 2) := by decide +kernel
theorem dX0_begin_33 : decode cX0_begin 33 = .ok (.if_icmp .ge 17, 3) := by decide +kernel
theorem dX0_begin_36 : decode cX0_begin 36 = .ok (.aload_n 0, 1) := by decide +kernel
theorem dX0_begin_37 : decode cX0_begin 37 = .ok (.getfield 15, 3) := by decide +kernel
theorem dX0_begin_40 : decode cX0_begin 40 = .ok (.iload 4, 2) := by decide +kernel
theorem dX0_begin_42 : decode cX0_begin 42 = .ok (.iconst (-1), 1) := by decide +kernel
theorem dX0_begin_43 : decode cX0_begin 43 = .ok (.iastore, 1) := by decide +kernel
theorem dX0_begin_44 : decode cX0_begin 44 = .ok (.iinc 4 1, 3) := by decide +kernel
theorem dX0_begin_47 : decode cX0_begin 47 = .ok (.goto (-18), 3) := by decide +kernel
theorem dX0_begin_50 : decode cX0_begin 50 = .ok (.return_, 1) := by decide +kernel
set_option maxRecDepth 100000 in
set_option maxHeartbeats 4000000 in
theorem c_X0_begin {l : Launch} {n0 : Nat} {D : va_G} {cA : Nat → ClassId} {M : gM} (b : Int) (r_b : -2147483648 ≤ b ∧ b ≤ 2147483647) {sz : Nat} (hsz : 206 ≤ sz) (f_87_0 : M 87 0 = 89) (f_87_1 : M 87 1 = 90) : Met l yX0_begin (gWsOf yX0_begin cX0_begin 5 (Option.none : Option Jvm.ClassFile.FieldType)) { frames := 4, cells := 0, slots := 0, locals := 120 } (gPc n0 D cA [gA n0 87, gA n0 8, gJ 0, gJ b] M sz) (gQv n0 D cA sz (fun M1 => M1 87 0 = 89 ∧ M1 87 5 = 0 ∧ ∀ a : Int, a ≠ 87 → a ≠ 88 → a ≠ 89 → a ≠ 90 → M1 a = M a)) 0 0 (fun q => n0 ≤ q) := by
  refine gMet_of [gA n0 87, gA n0 8, gJ 0, gJ b] (by decide) (Nat.le_of_ble_eq_true rfl) ?_
  intro p e s m args below meth cd X hr hm
  have X : gCx p s m args meth cd n0 D cA "ParishUnion$Act" cX0_begin 5 := X
  show G p l e ({ frames := 4, cells := 0, slots := 0, locals := 120 } : Room) s m args below meth cd n0 D cA 5 (MQ below (gQv n0 D cA sz (fun M1 => M1 87 0 = 89 ∧ M1 87 5 = 0 ∧ ∀ a : Int, a ≠ 87 → a ≠ 88 → a ≠ 89 → a ≠ 90 → M1 a = M a)) args s 0 0 (fun q => n0 ≤ q)) 0 0 M sz 0 [(0, gA n0 87), (1, gA n0 8), (2, gJ 0), (3, gJ b)] []
  refine g_aload_n (n := 1) X 1 dX0_begin_0 rfl rfl rfl ?_
  refine g_iconst (n := 2) X dX0_begin_1 rfl ?_
  refine g_aload_n (n := 3) X 0 dX0_begin_2 rfl rfl rfl ?_
  refine gg_0_0 (n := 6) (z := 88) X (by omega) (by omega) lay_87 kw_2_71 dX0_begin_3 rfl f_87_0 (by omega) ?_
  refine g_iconst (n := 7) X dX0_begin_6 rfl ?_
  refine g_iload_n (n := 8) X 2 dX0_begin_7 rfl rfl rfl ?_
  refine g_acopyB (n := 11) X kw_3_207 kw_3_209 kw_3_208 kw_1_16 (by omega) (by omega) lay_8 (by omega) (by omega) lay_88 (by omega) (by omega) (by omega) (by omega) (fun i h0 h1 => by exfalso; omega) (Nat.le_of_ble_eq_true rfl) (Nat.le_of_ble_eq_true rfl) dX0_begin_8 rfl ?_
  refine G.nm (fun M1 e2 => ?_)
  refine g_aload_n (n := 12) X 0 dX0_begin_11 rfl rfl rfl ?_
  refine g_iload_n (n := 13) X 2 dX0_begin_12 rfl rfl rfl ?_
  refine gp_0_5 (n := 16) X (by omega) (by omega) lay_87 kw_2_82 dX0_begin_13 rfl ?_
  refine G.nm (fun M3 e4 => ?_)
  refine g_aload_n (n := 17) X 0 dX0_begin_16 rfl rfl rfl ?_
  refine g_iload_n (n := 18) X 3 dX0_begin_17 rfl rfl rfl ?_
  refine gp_0_6 (n := 21) X (by omega) (by omega) lay_87 kw_2_83 dX0_begin_18 rfl ?_
  refine G.nm (fun M5 e6 => ?_)
  refine g_aload_n (n := 22) X 0 dX0_begin_21 rfl rfl rfl ?_
  refine g_iconst (n := 23) X dX0_begin_22 rfl ?_
  refine gp_0_7 (n := 26) X (by omega) (by omega) lay_87 kw_2_85 dX0_begin_23 rfl ?_
  refine G.nm (fun M7 e8 => ?_)
  refine g_iconst (n := 27) X dX0_begin_26 rfl ?_
  refine g_istore (n := 29) (L' := [(4, gJ 0), (0, gA n0 87), (1, gA n0 8), (2, gJ 0), (3, gJ b)]) X dX0_begin_27 (by decide) rfl rfl ?_
  refine g_iload (n := 31) X 0 dX0_begin_29 rfl rfl ?_
  refine g_bipush (n := 33) X dX0_begin_31 (by decide +kernel) rfl ?_
  refine g_icmp_ge (n := 36) (tgt := 50) X dX0_begin_33 (by decide) (by omega) (by omega) rfl (fun c9 => by exfalso; omega) (fun c9 => ?_)
  refine g_aload_n (n := 37) X 1 dX0_begin_36 rfl rfl rfl ?_
  refine gg_0_1 (n := 40) (z := 89) X (by omega) (by omega) lay_87 kw_2_73 dX0_begin_37 rfl ((congrFun (congrFun e8 _) _).trans ((gset_ne (by omega)).trans ((congrFun (congrFun e6 _) _).trans ((gset_ne (by omega)).trans ((congrFun (congrFun e4 _) _).trans ((gset_ne (by omega)).trans ((congrFun (congrFun e2 _) _).trans ((gcpy_ne (by omega)).trans f_87_1)))))))) (by omega) ?_
  refine g_iload (n := 42) X 0 dX0_begin_40 rfl rfl ?_
  refine g_iconst (n := 43) X dX0_begin_42 rfl ?_
  refine g_iast (n := 44) X (by omega) (by omega) lay_89 (by omega) (by omega) (by omega) dX0_begin_43 rfl ?_
  refine G.nm (fun M10 e11 => ?_)
  refine g_iinc (n := 47) (w := 1) (L' := [(4, gJ 1), (0, gA n0 87), (1, gA n0 8), (2, gJ 0), (3, gJ b)]) X 0 dX0_begin_44 rfl rfl (by decide) rfl rfl ?_
  refine g_goto (tgt := 29) X dX0_begin_47 (by decide) ?_
  refine g_iload (n := 31) X 0 dX0_begin_29 rfl rfl ?_
  refine g_bipush (n := 33) X dX0_begin_31 (by decide +kernel) rfl ?_
  refine g_icmp_ge (n := 36) (tgt := 50) X dX0_begin_33 (by decide) (by omega) (by omega) rfl (fun c12 => by exfalso; omega) (fun c12 => ?_)
  refine g_aload_n (n := 37) X 1 dX0_begin_36 rfl rfl rfl ?_
  refine gg_0_1 (n := 40) (z := 89) X (by omega) (by omega) lay_87 kw_2_73 dX0_begin_37 rfl ((congrFun (congrFun e11 _) _).trans ((gset_ne (by omega)).trans ((congrFun (congrFun e8 _) _).trans ((gset_ne (by omega)).trans ((congrFun (congrFun e6 _) _).trans ((gset_ne (by omega)).trans ((congrFun (congrFun e4 _) _).trans ((gset_ne (by omega)).trans ((congrFun (congrFun e2 _) _).trans ((gcpy_ne (by omega)).trans f_87_1)))))))))) (by omega) ?_
  refine g_iload (n := 42) X 0 dX0_begin_40 rfl rfl ?_
  refine g_iconst (n := 43) X dX0_begin_42 rfl ?_
  refine g_iast (n := 44) X (by omega) (by omega) lay_89 (by omega) (by omega) (by omega) dX0_begin_43 rfl ?_
  refine G.nm (fun M13 e14 => ?_)
  refine g_iinc (n := 47) (w := 2) (L' := [(4, gJ 2), (0, gA n0 87), (1, gA n0 8), (2, gJ 0), (3, gJ b)]) X 0 dX0_begin_44 rfl rfl (by decide) rfl rfl ?_
  refine g_goto (tgt := 29) X dX0_begin_47 (by decide) ?_
  refine g_iload (n := 31) X 0 dX0_begin_29 rfl rfl ?_
  refine g_bipush (n := 33) X dX0_begin_31 (by decide +kernel) rfl ?_
  refine g_icmp_ge (n := 36) (tgt := 50) X dX0_begin_33 (by decide) (by omega) (by omega) rfl (fun c15 => by exfalso; omega) (fun c15 => ?_)
  refine g_aload_n (n := 37) X 1 dX0_begin_36 rfl rfl rfl ?_
  refine gg_0_1 (n := 40) (z := 89) X (by omega) (by omega) lay_87 kw_2_73 dX0_begin_37 rfl ((congrFun (congrFun e14 _) _).trans ((gset_ne (by omega)).trans ((congrFun (congrFun e11 _) _).trans ((gset_ne (by omega)).trans ((congrFun (congrFun e8 _) _).trans ((gset_ne (by omega)).trans ((congrFun (congrFun e6 _) _).trans ((gset_ne (by omega)).trans ((congrFun (congrFun e4 _) _).trans ((gset_ne (by omega)).trans ((congrFun (congrFun e2 _) _).trans ((gcpy_ne (by omega)).trans f_87_1)))))))))))) (by omega) ?_
  refine g_iload (n := 42) X 0 dX0_begin_40 rfl rfl ?_
  refine g_iconst (n := 43) X dX0_begin_42 rfl ?_
  refine g_iast (n := 44) X (by omega) (by omega) lay_89 (by omega) (by omega) (by omega) dX0_begin_43 rfl ?_
  refine G.nm (fun M16 e17 => ?_)
  refine g_iinc (n := 47) (w := 3) (L' := [(4, gJ 3), (0, gA n0 87), (1, gA n0 8), (2, gJ 0), (3, gJ b)]) X 0 dX0_begin_44 rfl rfl (by decide) rfl rfl ?_
  refine g_goto (tgt := 29) X dX0_begin_47 (by decide) ?_
  refine g_iload (n := 31) X 0 dX0_begin_29 rfl rfl ?_
  refine g_bipush (n := 33) X dX0_begin_31 (by decide +kernel) rfl ?_
  refine g_icmp_ge (n := 36) (tgt := 50) X dX0_begin_33 (by decide) (by omega) (by omega) rfl (fun c18 => by exfalso; omega) (fun c18 => ?_)
  refine g_aload_n (n := 37) X 1 dX0_begin_36 rfl rfl rfl ?_
  refine gg_0_1 (n := 40) (z := 89) X (by omega) (by omega) lay_87 kw_2_73 dX0_begin_37 rfl ((congrFun (congrFun e17 _) _).trans ((gset_ne (by omega)).trans ((congrFun (congrFun e14 _) _).trans ((gset_ne (by omega)).trans ((congrFun (congrFun e11 _) _).trans ((gset_ne (by omega)).trans ((congrFun (congrFun e8 _) _).trans ((gset_ne (by omega)).trans ((congrFun (congrFun e6 _) _).trans ((gset_ne (by omega)).trans ((congrFun (congrFun e4 _) _).trans ((gset_ne (by omega)).trans ((congrFun (congrFun e2 _) _).trans ((gcpy_ne (by omega)).trans f_87_1)))))))))))))) (by omega) ?_
  refine g_iload (n := 42) X 0 dX0_begin_40 rfl rfl ?_
  refine g_iconst (n := 43) X dX0_begin_42 rfl ?_
  refine g_iast (n := 44) X (by omega) (by omega) lay_89 (by omega) (by omega) (by omega) dX0_begin_43 rfl ?_
  refine G.nm (fun M19 e20 => ?_)
  refine g_iinc (n := 47) (w := 4) (L' := [(4, gJ 4), (0, gA n0 87), (1, gA n0 8), (2, gJ 0), (3, gJ b)]) X 0 dX0_begin_44 rfl rfl (by decide) rfl rfl ?_
  refine g_goto (tgt := 29) X dX0_begin_47 (by decide) ?_
  refine g_iload (n := 31) X 0 dX0_begin_29 rfl rfl ?_
  refine g_bipush (n := 33) X dX0_begin_31 (by decide +kernel) rfl ?_
  refine g_icmp_ge (n := 36) (tgt := 50) X dX0_begin_33 (by decide) (by omega) (by omega) rfl (fun c21 => by exfalso; omega) (fun c21 => ?_)
  refine g_aload_n (n := 37) X 1 dX0_begin_36 rfl rfl rfl ?_
  refine gg_0_1 (n := 40) (z := 89) X (by omega) (by omega) lay_87 kw_2_73 dX0_begin_37 rfl ((congrFun (congrFun e20 _) _).trans ((gset_ne (by omega)).trans ((congrFun (congrFun e17 _) _).trans ((gset_ne (by omega)).trans ((congrFun (congrFun e14 _) _).trans ((gset_ne (by omega)).trans ((congrFun (congrFun e11 _) _).trans ((gset_ne (by omega)).trans ((congrFun (congrFun e8 _) _).trans ((gset_ne (by omega)).trans ((congrFun (congrFun e6 _) _).trans ((gset_ne (by omega)).trans ((congrFun (congrFun e4 _) _).trans ((gset_ne (by omega)).trans ((congrFun (congrFun e2 _) _).trans ((gcpy_ne (by omega)).trans f_87_1)))))))))))))))) (by omega) ?_
  refine g_iload (n := 42) X 0 dX0_begin_40 rfl rfl ?_
  refine g_iconst (n := 43) X dX0_begin_42 rfl ?_
  refine g_iast (n := 44) X (by omega) (by omega) lay_89 (by omega) (by omega) (by omega) dX0_begin_43 rfl ?_
  refine G.nm (fun M22 e23 => ?_)
  refine g_iinc (n := 47) (w := 5) (L' := [(4, gJ 5), (0, gA n0 87), (1, gA n0 8), (2, gJ 0), (3, gJ b)]) X 0 dX0_begin_44 rfl rfl (by decide) rfl rfl ?_
  refine g_goto (tgt := 29) X dX0_begin_47 (by decide) ?_
  refine g_iload (n := 31) X 0 dX0_begin_29 rfl rfl ?_
  refine g_bipush (n := 33) X dX0_begin_31 (by decide +kernel) rfl ?_
  refine g_icmp_ge (n := 36) (tgt := 50) X dX0_begin_33 (by decide) (by omega) (by omega) rfl (fun c24 => by exfalso; omega) (fun c24 => ?_)
  refine g_aload_n (n := 37) X 1 dX0_begin_36 rfl rfl rfl ?_
  refine gg_0_1 (n := 40) (z := 89) X (by omega) (by omega) lay_87 kw_2_73 dX0_begin_37 rfl ((congrFun (congrFun e23 _) _).trans ((gset_ne (by omega)).trans ((congrFun (congrFun e20 _) _).trans ((gset_ne (by omega)).trans ((congrFun (congrFun e17 _) _).trans ((gset_ne (by omega)).trans ((congrFun (congrFun e14 _) _).trans ((gset_ne (by omega)).trans ((congrFun (congrFun e11 _) _).trans ((gset_ne (by omega)).trans ((congrFun (congrFun e8 _) _).trans ((gset_ne (by omega)).trans ((congrFun (congrFun e6 _) _).trans ((gset_ne (by omega)).trans ((congrFun (congrFun e4 _) _).trans ((gset_ne (by omega)).trans ((congrFun (congrFun e2 _) _).trans ((gcpy_ne (by omega)).trans f_87_1)))))))))))))))))) (by omega) ?_
  refine g_iload (n := 42) X 0 dX0_begin_40 rfl rfl ?_
  refine g_iconst (n := 43) X dX0_begin_42 rfl ?_
  refine g_iast (n := 44) X (by omega) (by omega) lay_89 (by omega) (by omega) (by omega) dX0_begin_43 rfl ?_
  refine G.nm (fun M25 e26 => ?_)
  refine g_iinc (n := 47) (w := 6) (L' := [(4, gJ 6), (0, gA n0 87), (1, gA n0 8), (2, gJ 0), (3, gJ b)]) X 0 dX0_begin_44 rfl rfl (by decide) rfl rfl ?_
  refine g_goto (tgt := 29) X dX0_begin_47 (by decide) ?_
  refine g_iload (n := 31) X 0 dX0_begin_29 rfl rfl ?_
  refine g_bipush (n := 33) X dX0_begin_31 (by decide +kernel) rfl ?_
  refine g_icmp_ge (n := 36) (tgt := 50) X dX0_begin_33 (by decide) (by omega) (by omega) rfl (fun c27 => by exfalso; omega) (fun c27 => ?_)
  refine g_aload_n (n := 37) X 1 dX0_begin_36 rfl rfl rfl ?_
  refine gg_0_1 (n := 40) (z := 89) X (by omega) (by omega) lay_87 kw_2_73 dX0_begin_37 rfl ((congrFun (congrFun e26 _) _).trans ((gset_ne (by omega)).trans ((congrFun (congrFun e23 _) _).trans ((gset_ne (by omega)).trans ((congrFun (congrFun e20 _) _).trans ((gset_ne (by omega)).trans ((congrFun (congrFun e17 _) _).trans ((gset_ne (by omega)).trans ((congrFun (congrFun e14 _) _).trans ((gset_ne (by omega)).trans ((congrFun (congrFun e11 _) _).trans ((gset_ne (by omega)).trans ((congrFun (congrFun e8 _) _).trans ((gset_ne (by omega)).trans ((congrFun (congrFun e6 _) _).trans ((gset_ne (by omega)).trans ((congrFun (congrFun e4 _) _).trans ((gset_ne (by omega)).trans ((congrFun (congrFun e2 _) _).trans ((gcpy_ne (by omega)).trans f_87_1)))))))))))))))))))) (by omega) ?_
  refine g_iload (n := 42) X 0 dX0_begin_40 rfl rfl ?_
  refine g_iconst (n := 43) X dX0_begin_42 rfl ?_
  refine g_iast (n := 44) X (by omega) (by omega) lay_89 (by omega) (by omega) (by omega) dX0_begin_43 rfl ?_
  refine G.nm (fun M28 e29 => ?_)
  refine g_iinc (n := 47) (w := 7) (L' := [(4, gJ 7), (0, gA n0 87), (1, gA n0 8), (2, gJ 0), (3, gJ b)]) X 0 dX0_begin_44 rfl rfl (by decide) rfl rfl ?_
  refine g_goto (tgt := 29) X dX0_begin_47 (by decide) ?_
  refine g_iload (n := 31) X 0 dX0_begin_29 rfl rfl ?_
  refine g_bipush (n := 33) X dX0_begin_31 (by decide +kernel) rfl ?_
  refine g_icmp_ge (n := 36) (tgt := 50) X dX0_begin_33 (by decide) (by omega) (by omega) rfl (fun c30 => by exfalso; omega) (fun c30 => ?_)
  refine g_aload_n (n := 37) X 1 dX0_begin_36 rfl rfl rfl ?_
  refine gg_0_1 (n := 40) (z := 89) X (by omega) (by omega) lay_87 kw_2_73 dX0_begin_37 rfl ((congrFun (congrFun e29 _) _).trans ((gset_ne (by omega)).trans ((congrFun (congrFun e26 _) _).trans ((gset_ne (by omega)).trans ((congrFun (congrFun e23 _) _).trans ((gset_ne (by omega)).trans ((congrFun (congrFun e20 _) _).trans ((gset_ne (by omega)).trans ((congrFun (congrFun e17 _) _).trans ((gset_ne (by omega)).trans ((congrFun (congrFun e14 _) _).trans ((gset_ne (by omega)).trans ((congrFun (congrFun e11 _) _).trans ((gset_ne (by omega)).trans ((congrFun (congrFun e8 _) _).trans ((gset_ne (by omega)).trans ((congrFun (congrFun e6 _) _).trans ((gset_ne (by omega)).trans ((congrFun (congrFun e4 _) _).trans ((gset_ne (by omega)).trans ((congrFun (congrFun e2 _) _).trans ((gcpy_ne (by omega)).trans f_87_1)))))))))))))))))))))) (by omega) ?_
  refine g_iload (n := 42) X 0 dX0_begin_40 rfl rfl ?_
  refine g_iconst (n := 43) X dX0_begin_42 rfl ?_
  refine g_iast (n := 44) X (by omega) (by omega) lay_89 (by omega) (by omega) (by omega) dX0_begin_43 rfl ?_
  refine G.nm (fun M31 e32 => ?_)
  refine g_iinc (n := 47) (w := 8) (L' := [(4, gJ 8), (0, gA n0 87), (1, gA n0 8), (2, gJ 0), (3, gJ b)]) X 0 dX0_begin_44 rfl rfl (by decide) rfl rfl ?_
  refine g_goto (tgt := 29) X dX0_begin_47 (by decide) ?_
  refine g_iload (n := 31) X 0 dX0_begin_29 rfl rfl ?_
  refine g_bipush (n := 33) X dX0_begin_31 (by decide +kernel) rfl ?_
  refine g_icmp_ge (n := 36) (tgt := 50) X dX0_begin_33 (by decide) (by omega) (by omega) rfl (fun c33 => by exfalso; omega) (fun c33 => ?_)
  refine g_aload_n (n := 37) X 1 dX0_begin_36 rfl rfl rfl ?_
  refine gg_0_1 (n := 40) (z := 89) X (by omega) (by omega) lay_87 kw_2_73 dX0_begin_37 rfl ((congrFun (congrFun e32 _) _).trans ((gset_ne (by omega)).trans ((congrFun (congrFun e29 _) _).trans ((gset_ne (by omega)).trans ((congrFun (congrFun e26 _) _).trans ((gset_ne (by omega)).trans ((congrFun (congrFun e23 _) _).trans ((gset_ne (by omega)).trans ((congrFun (congrFun e20 _) _).trans ((gset_ne (by omega)).trans ((congrFun (congrFun e17 _) _).trans ((gset_ne (by omega)).trans ((congrFun (congrFun e14 _) _).trans ((gset_ne (by omega)).trans ((congrFun (congrFun e11 _) _).trans ((gset_ne (by omega)).trans ((congrFun (congrFun e8 _) _).trans ((gset_ne (by omega)).trans ((congrFun (congrFun e6 _) _).trans ((gset_ne (by omega)).trans ((congrFun (congrFun e4 _) _).trans ((gset_ne (by omega)).trans ((congrFun (congrFun e2 _) _).trans ((gcpy_ne (by omega)).trans f_87_1)))))))))))))))))))))))) (by omega) ?_
  refine g_iload (n := 42) X 0 dX0_begin_40 rfl rfl ?_
  refine g_iconst (n := 43) X dX0_begin_42 rfl ?_
  refine g_iast (n := 44) X (by omega) (by omega) lay_89 (by omega) (by omega) (by omega) dX0_begin_43 rfl ?_
  refine G.nm (fun M34 e35 => ?_)
  refine g_iinc (n := 47) (w := 9) (L' := [(4, gJ 9), (0, gA n0 87), (1, gA n0 8), (2, gJ 0), (3, gJ b)]) X 0 dX0_begin_44 rfl rfl (by decide) rfl rfl ?_
  refine g_goto (tgt := 29) X dX0_begin_47 (by decide) ?_
  refine g_iload (n := 31) X 0 dX0_begin_29 rfl rfl ?_
  refine g_bipush (n := 33) X dX0_begin_31 (by decide +kernel) rfl ?_
  refine g_icmp_ge (n := 36) (tgt := 50) X dX0_begin_33 (by decide) (by omega) (by omega) rfl (fun c36 => by exfalso; omega) (fun c36 => ?_)
  refine g_aload_n (n := 37) X 1 dX0_begin_36 rfl rfl rfl ?_
  refine gg_0_1 (n := 40) (z := 89) X (by omega) (by omega) lay_87 kw_2_73 dX0_begin_37 rfl ((congrFun (congrFun e35 _) _).trans ((gset_ne (by omega)).trans ((congrFun (congrFun e32 _) _).trans ((gset_ne (by omega)).trans ((congrFun (congrFun e29 _) _).trans ((gset_ne (by omega)).trans ((congrFun (congrFun e26 _) _).trans ((gset_ne (by omega)).trans ((congrFun (congrFun e23 _) _).trans ((gset_ne (by omega)).trans ((congrFun (congrFun e20 _) _).trans ((gset_ne (by omega)).trans ((congrFun (congrFun e17 _) _).trans ((gset_ne (by omega)).trans ((congrFun (congrFun e14 _) _).trans ((gset_ne (by omega)).trans ((congrFun (congrFun e11 _) _).trans ((gset_ne (by omega)).trans ((congrFun (congrFun e8 _) _).trans ((gset_ne (by omega)).trans ((congrFun (congrFun e6 _) _).trans ((gset_ne (by omega)).trans ((congrFun (congrFun e4 _) _).trans ((gset_ne (by omega)).trans ((congrFun (congrFun e2 _) _).trans ((gcpy_ne (by omega)).trans f_87_1)))))))))))))))))))))))))) (by omega) ?_
  refine g_iload (n := 42) X 0 dX0_begin_40 rfl rfl ?_
  refine g_iconst (n := 43) X dX0_begin_42 rfl ?_
  refine g_iast (n := 44) X (by omega) (by omega) lay_89 (by omega) (by omega) (by omega) dX0_begin_43 rfl ?_
  refine G.nm (fun M37 e38 => ?_)
  refine g_iinc (n := 47) (w := 10) (L' := [(4, gJ 10), (0, gA n0 87), (1, gA n0 8), (2, gJ 0), (3, gJ b)]) X 0 dX0_begin_44 rfl rfl (by decide) rfl rfl ?_
  refine g_goto (tgt := 29) X dX0_begin_47 (by decide) ?_
  refine g_iload (n := 31) X 0 dX0_begin_29 rfl rfl ?_
  refine g_bipush (n := 33) X dX0_begin_31 (by decide +kernel) rfl ?_
  refine g_icmp_ge (n := 36) (tgt := 50) X dX0_begin_33 (by decide) (by omega) (by omega) rfl (fun c39 => ?_) (fun c39 => by exfalso; omega)
  exact g_return X hr dX0_begin_50 (by exact ⟨((congrFun (congrFun e38 _) _).trans ((gset_ne (by omega)).trans ((congrFun (congrFun e35 _) _).trans ((gset_ne (by omega)).trans ((congrFun (congrFun e32 _) _).trans ((gset_ne (by omega)).trans ((congrFun (congrFun e29 _) _).trans ((gset_ne (by omega)).trans ((congrFun (congrFun e26 _) _).trans ((gset_ne (by omega)).trans ((congrFun (congrFun e23 _) _).trans ((gset_ne (by omega)).trans ((congrFun (congrFun e20 _) _).trans ((gset_ne (by omega)).trans ((congrFun (congrFun e17 _) _).trans ((gset_ne (by omega)).trans ((congrFun (congrFun e14 _) _).trans ((gset_ne (by omega)).trans ((congrFun (congrFun e11 _) _).trans ((gset_ne (by omega)).trans ((congrFun (congrFun e8 _) _).trans ((gset_ne (by omega)).trans ((congrFun (congrFun e6 _) _).trans ((gset_ne (by omega)).trans ((congrFun (congrFun e4 _) _).trans ((gset_ne (by omega)).trans ((congrFun (congrFun e2 _) _).trans ((gcpy_ne (by omega)).trans f_87_0)))))))))))))))))))))))))))), ((congrFun (congrFun e38 _) _).trans ((gset_ne (by omega)).trans ((congrFun (congrFun e35 _) _).trans ((gset_ne (by omega)).trans ((congrFun (congrFun e32 _) _).trans ((gset_ne (by omega)).trans ((congrFun (congrFun e29 _) _).trans ((gset_ne (by omega)).trans ((congrFun (congrFun e26 _) _).trans ((gset_ne (by omega)).trans ((congrFun (congrFun e23 _) _).trans ((gset_ne (by omega)).trans ((congrFun (congrFun e20 _) _).trans ((gset_ne (by omega)).trans ((congrFun (congrFun e17 _) _).trans ((gset_ne (by omega)).trans ((congrFun (congrFun e14 _) _).trans ((gset_ne (by omega)).trans ((congrFun (congrFun e11 _) _).trans ((gset_ne (by omega)).trans ((congrFun (congrFun e8 _) _).trans ((gset_ne (by omega)).trans ((congrFun (congrFun e6 _) _).trans ((gset_ne (by omega)).trans ((congrFun (congrFun e4 _) _).trans (gset_eq _ _ _ _)))))))))))))))))))))))))), fun a h0 h1 h2 h3 => ((congrFun e38 a).trans ((gset_off a (by omega)).trans ((congrFun e35 a).trans ((gset_off a (by omega)).trans ((congrFun e32 a).trans ((gset_off a (by omega)).trans ((congrFun e29 a).trans ((gset_off a (by omega)).trans ((congrFun e26 a).trans ((gset_off a (by omega)).trans ((congrFun e23 a).trans ((gset_off a (by omega)).trans ((congrFun e20 a).trans ((gset_off a (by omega)).trans ((congrFun e17 a).trans ((gset_off a (by omega)).trans ((congrFun e14 a).trans ((gset_off a (by omega)).trans ((congrFun e11 a).trans ((gset_off a (by omega)).trans ((congrFun e8 a).trans ((gset_off a (by omega)).trans ((congrFun e6 a).trans ((gset_off a (by omega)).trans ((congrFun e4 a).trans ((gset_off a (by omega)).trans ((congrFun e2 a).trans ((gcpy_off a (by omega)).trans rfl))))))))))))))))))))))))))))⟩)
theorem dX11_readTape_0 : decode cX11_readTape 0 = .ok (.aload_n 0, 1) := by decide +kernel
theorem dX11_readTape_1 : decode cX11_readTape 1 = .ok (.getfield 10, 3) := by decide +kernel
theorem dX11_readTape_4 : decode cX11_readTape 4 = .ok (.getfield 434, 3) := by decide +kernel
theorem kw_2_113 : (Jvm.Cond.fieldLink "ParishUnion" (434 : Nat) "ParishUnion$Union" "acts" "[LParishUnion$Act;") ∈ gT := gT_of (tb_2 _ (List.mem_of_getElem? (i := 113) rfl)) rfl
theorem dX11_readTape_7 : decode cX11_readTape 7 = .ok (.aload_n 0, 1) := by decide +kernel
theorem dX11_readTape_8 : decode cX11_readTape 8 = .ok (.getfield 10, 3) := by decide +kernel
theorem dX11_readTape_11 : decode cX11_readTape 11 = .ok (.getfield 219, 3) := by decide +kernel
theorem dX11_readTape_14 : decode cX11_readTape 14 = .ok (.aaload, 1) := by decide +kernel
theorem dX11_readTape_15 : decode cX11_readTape 15 = .ok (.astore_n 2, 1) := by decide +kernel
theorem dX11_readTape_16 : decode cX11_readTape 16 = .ok (.aload_n 2, 1) := by decide +kernel
theorem dX11_readTape_17 : decode cX11_readTape 17 = .ok (.aload_n 0, 1) := by decide +kernel
theorem dX11_readTape_18 : decode cX11_readTape 18 = .ok (.getfield 10, 3) := by decide +kernel
theorem dX11_readTape_21 : decode cX11_readTape 21 = .ok (.getfield 215, 3) := by decide +kernel
theorem dX11_readTape_24 : decode cX11_readTape 24 = .ok (.aload_n 0, 1) := by decide +kernel
theorem dX11_readTape_25 : decode cX11_readTape 25 = .ok (.getfield 10, 3) := by decide +kernel
theorem dX11_readTape_28 : decode cX11_readTape 28 = .ok (.getfield 212, 3) := by decide +kernel
theorem dX11_readTape_31 : decode cX11_readTape 31 = .ok (.iload_n 1, 1) := by decide +kernel
theorem dX11_readTape_32 : decode cX11_readTape 32 = .ok (.invokevirtual 438, 3) := by decide +kernel
theorem kw_3_203 : (Jvm.Cond.methodLink "ParishUnion" (438 : Nat) ({ cls := "ParishUnion$Act", name := "begin", desc := "([BII)V" } : Jvm.MethodName)) ∈ gT := gT_of (tb_3 _ (List.mem_of_getElem? (i := 203) rfl)) rfl
theorem kw_3_206 : (Jvm.Cond.code ({ cls := "ParishUnion$Act", name := "begin", desc := "([BII)V" } : Jvm.MethodName) prog_2_method_2_code (5 : Nat) (Option.none : Option Jvm.ClassFile.FieldType)) ∈ gT := gT_of (tb_3 _ (List.mem_of_getElem? (i := 206) rfl)) rfl
theorem okX0_begin : gQok yX0_begin cX0_begin 5 (Option.none : Option Jvm.ClassFile.FieldType) 3 := ⟨kw_3_206, kw_1_10, by decide +kernel, by decide +kernel, by decide +kernel⟩
theorem kw_3_204 : (Jvm.Cond.instanceMethod ({ cls := "ParishUnion$Act", name := "begin", desc := "([BII)V" } : Jvm.MethodName)) ∈ gT := gT_of (tb_3 _ (List.mem_of_getElem? (i := 204) rfl)) rfl
theorem kw_3_205 : (Jvm.Cond.selects "ParishUnion$Act" ({ cls := "ParishUnion$Act", name := "begin", desc := "([BII)V" } : Jvm.MethodName) ({ cls := "ParishUnion$Act", name := "begin", desc := "([BII)V" } : Jvm.MethodName)) ∈ gT := gT_of (tb_3 _ (List.mem_of_getElem? (i := 205) rfl)) rfl
theorem dX11_readTape_35 : decode cX11_readTape 35 = .ok (.aload_n 0, 1) := by decide +kernel
theorem dX11_readTape_36 : decode cX11_readTape 36 = .ok (.getfield 10, 3) := by decide +kernel
theorem dX11_readTape_39 : decode cX11_readTape 39 = .ok (.iconst 0, 1) := by decide +kernel
theorem dX11_readTape_40 : decode cX11_readTape 40 = .ok (.putfield 212, 3) := by decide +kernel
theorem dX11_readTape_43 : decode cX11_readTape 43 = .ok (.aload_n 0, 1) := by decide +kernel
theorem dX11_readTape_44 : decode cX11_readTape 44 = .ok (.getfield 26, 3) := by decide +kernel
theorem dX11_readTape_47 : decode cX11_readTape 47 = .ok (.aload_n 2, 1) := by decide +kernel
theorem dX11_readTape_48 : decode cX11_readTape 48 = .ok (.invokevirtual 443, 3) := by decide +kernel
theorem kw_3_210 : (Jvm.Cond.methodLink "ParishUnion" (443 : Nat) ({ cls := "ParishUnion$Reader", name := "read", desc := "(LParishUnion$Act;)I" } : Jvm.MethodName)) ∈ gT := gT_of (tb_3 _ (List.mem_of_getElem? (i := 210) rfl)) rfl
theorem kw_3_213 : (Jvm.Cond.code ({ cls := "ParishUnion$Reader", name := "read", desc := "(LParishUnion$Act;)I" } : Jvm.MethodName) prog_9_method_2_code (3 : Nat) (Option.some Jvm.ClassFile.FieldType.int)) ∈ gT := gT_of (tb_3 _ (List.mem_of_getElem? (i := 213) rfl)) rfl
theorem okX7_read : gQok yX7_read cX7_read 3 (Option.some Jvm.ClassFile.FieldType.int) 1 := ⟨kw_3_213, kw_1_12, by decide +kernel, by decide +kernel, by decide +kernel⟩
theorem kw_3_211 : (Jvm.Cond.instanceMethod ({ cls := "ParishUnion$Reader", name := "read", desc := "(LParishUnion$Act;)I" } : Jvm.MethodName)) ∈ gT := gT_of (tb_3 _ (List.mem_of_getElem? (i := 211) rfl)) rfl
theorem kw_3_212 : (Jvm.Cond.selects "ParishUnion$Reader" ({ cls := "ParishUnion$Reader", name := "read", desc := "(LParishUnion$Act;)I" } : Jvm.MethodName) ({ cls := "ParishUnion$Reader", name := "read", desc := "(LParishUnion$Act;)I" } : Jvm.MethodName)) ∈ gT := gT_of (tb_3 _ (List.mem_of_getElem? (i := 212) rfl)) rfl
theorem dX11_readTape_51 : decode cX11_readTape 51 = .ok (.ireturn, 1) := by decide +kernel
set_option maxRecDepth 100000 in
set_option maxHeartbeats 4000000 in
theorem c_X11_readTape {l : Launch} {n0 : Nat} {D : va_G} {cA : Nat → ClassId} {M : gM} (a : Int) (r_a : -2147483648 ≤ a ∧ a ≤ 2147483647) {sz : Nat} (hsz : 206 ≤ sz) (f_0_0 : M 0 0 = 2) (f_1_3 : M 1 3 = 8) (f_1_13 : M 1 13 = 0) (f_7_0 : M 7 0 = 88) (f_1_4 : M 1 4 = 9) (f_1_14 : M 1 14 = 0) (f_0_2 : M 0 2 = 160) (f_87_0 : M 87 0 = 89) (f_87_1 : M 87 1 = 90) : Met l yX11_readTape (gWsOf yX11_readTape cX11_readTape 3 (Option.some Jvm.ClassFile.FieldType.int)) { frames := 9, cells := 0, slots := 0, locals := 196 } (gPc n0 D cA [gA n0 0, gJ a] M sz) (gQi n0 D cA sz (fun z M1 => (z = 0) ∧ ∀ a : Int, a ≠ 1 → a ≠ 87 → a ≠ 88 → a ≠ 89 → a ≠ 90 → a ≠ 159 → M1 a = M a)) 0 0 (fun q => n0 ≤ q) := by
  refine gMet_of [gA n0 0, gJ a] (by decide) (Nat.le_of_ble_eq_true rfl) ?_
  intro p e s m args below meth cd X hr hm
  have X : gCx p s m args meth cd n0 D cA "ParishUnion" cX11_readTape 3 := X
  show G p l e ({ frames := 9, cells := 0, slots := 0, locals := 196 } : Room) s m args below meth cd n0 D cA 3 (MQ below (gQi n0 D cA sz (fun z M1 => (z = 0) ∧ ∀ a : Int, a ≠ 1 → a ≠ 87 → a ≠ 88 → a ≠ 89 → a ≠ 90 → a ≠ 159 → M1 a = M a)) args s 0 0 (fun q => n0 ≤ q)) 0 0 M sz 0 [(0, gA n0 0), (1, gJ a)] []
  refine g_aload_n (n := 1) X 0 dX11_readTape_0 rfl rfl rfl ?_
  refine gg_11_0 (n := 4) (z := 1) X (by omega) (by omega) lay_0 kw_2_231 dX11_readTape_1 rfl f_0_0 (by omega) ?_
  refine gg_9_3 (n := 7) (z := 7) X (by omega) (by omega) lay_1 kw_2_113 dX11_readTape_4 rfl f_1_3 (by omega) ?_
  refine g_aload_n (n := 8) X 0 dX11_readTape_7 rfl rfl rfl ?_
  refine gg_11_0 (n := 11) (z := 1) X (by omega) (by omega) lay_0 kw_2_231 dX11_readTape_8 rfl f_0_0 (by omega) ?_
  refine gg_9_13 (n := 14) (z := 0) X (by omega) (by omega) lay_1 kw_2_135 dX11_readTape_11 rfl f_1_13 ?_
  refine g_aald5 (n := 15) (t := 87) X (by omega) (by omega) lay_7 (by omega) (by omega) (by omega) f_7_0 (by omega) dX11_readTape_14 rfl ?_
  refine g_astore_n (n := 16) (L' := [(2, gA n0 87), (0, gA n0 0), (1, gJ a)]) X dX11_readTape_15 rfl (by decide) rfl rfl ?_
  refine g_aload_n (n := 17) X 0 dX11_readTape_16 rfl rfl rfl ?_
  refine g_aload_n (n := 18) X 1 dX11_readTape_17 rfl rfl rfl ?_
  refine gg_11_0 (n := 21) (z := 1) X (by omega) (by omega) lay_0 kw_2_231 dX11_readTape_18 rfl f_0_0 (by omega) ?_
  refine gg_9_4 (n := 24) (z := 8) X (by omega) (by omega) lay_1 kw_2_115 dX11_readTape_21 rfl f_1_4 (by omega) ?_
  refine g_aload_n (n := 25) X 1 dX11_readTape_24 rfl rfl rfl ?_
  refine gg_11_0 (n := 28) (z := 1) X (by omega) (by omega) lay_0 kw_2_231 dX11_readTape_25 rfl f_0_0 (by omega) ?_
  refine gg_9_14 (n := 31) (z := 0) X (by omega) (by omega) lay_1 kw_2_137 dX11_readTape_28 rfl f_1_14 ?_
  refine g_iload_n (n := 32) X 2 dX11_readTape_31 rfl rfl rfl ?_
  refine g_callVv (n := 35) (As := [gA n0 8, gJ 0, gJ a]) (rest := []) (cs1 := 0) (ss1 := 0) X (c_X0_begin a (by omega) (by omega) f_87_0 f_87_1) okX0_begin kw_3_203 ⟨kw_3_204, kw_3_205⟩ ⟨rfl, rfl⟩ ⟨Nat.le_of_ble_eq_true rfl, Nat.le_of_ble_eq_true rfl⟩ rfl (by omega) (by omega) lay_87 rfl rfl (Nat.le_of_ble_eq_true rfl) ⟨Nat.le_of_ble_eq_true rfl, Nat.le_of_ble_eq_true rfl⟩ rfl rfl dX11_readTape_32 rfl (fun M2 P3 => ?_)
  obtain ⟨g5, g6, F4⟩ := P3
  refine g_aload_n (n := 36) X 1 dX11_readTape_35 rfl rfl rfl ?_
  refine gg_11_0 (n := 39) (z := 1) X (by omega) (by omega) lay_0 kw_2_231 dX11_readTape_36 rfl ((congrFun (F4 0 (by omega) (by omega) (by omega) (by omega)) _).trans f_0_0) (by omega) ?_
  refine g_iconst (n := 40) X dX11_readTape_39 rfl ?_
  refine gp_9_14 (n := 43) X (by omega) (by omega) lay_1 kw_2_137 dX11_readTape_40 rfl ?_
  refine G.nm (fun M7 e8 => ?_)
  refine g_aload_n (n := 44) X 1 dX11_readTape_43 rfl rfl rfl ?_
  refine gg_11_2 (n := 47) (z := 159) X (by omega) (by omega) lay_0 kw_2_233 dX11_readTape_44 rfl ((congrFun (congrFun e8 _) _).trans ((gset_ne (by omega)).trans ((congrFun (F4 0 (by omega) (by omega) (by omega) (by omega)) _).trans f_0_2))) (by omega) ?_
  refine g_aload_n (n := 48) X 0 dX11_readTape_47 rfl rfl rfl ?_
  refine g_callVi (n := 51) (As := [gA n0 87]) (rest := []) (cs1 := 0) (ss1 := 0) X (c_X7_read (by omega) ((congrFun (congrFun e8 _) _).trans ((gset_ne (by omega)).trans g5)) ((congrFun (congrFun e8 _) _).trans ((gset_ne (by omega)).trans g6))) okX7_read kw_3_210 ⟨kw_3_211, kw_3_212⟩ ⟨rfl, rfl⟩ ⟨Nat.le_of_ble_eq_true rfl, Nat.le_of_ble_eq_true rfl⟩ rfl (by omega) (by omega) lay_159 rfl rfl (Nat.le_of_ble_eq_true rfl) ⟨Nat.le_of_ble_eq_true rfl, Nat.le_of_ble_eq_true rfl⟩ rfl rfl dX11_readTape_48 rfl (fun z9 M10 P11 => ?_)
  obtain ⟨P11, F12⟩ := P11
  obtain rfl : z9 = 0 := P11
  exact g_ireturn X hr dX11_readTape_51 (by exact ⟨by omega, fun a h0 h1 h2 h3 h4 h5 => ((F12 a (by omega)).trans ((congrFun e8 a).trans ((gset_off a (by omega)).trans ((F4 a (by omega) (by omega) (by omega) (by omega)).trans rfl))))⟩)
theorem dX11_text_0 : decode cX11_text 0 = .ok (.iload_n 1, 1) := by decide +kernel
theorem dX11_text_1 : decode cX11_text 1 = .ok (.iconst 0, 1) := by decide +kernel
theorem dX11_text_2 : decode cX11_text 2 = .ok (.sipush 300, 3) := by decide +kernel
theorem dX11_text_5 : decode cX11_text 5 = .ok (.invokestatic 62, 3) := by decide +kernel
theorem dX11_text_8 : decode cX11_text 8 = .ok (.ifCond .ne 6, 3) := by decide +kernel
theorem dX11_text_14 : decode cX11_text 14 = .ok (.aload_n 0, 1) := by decide +kernel
theorem dX11_text_15 : decode cX11_text 15 = .ok (.getfield 10, 3) := by decide +kernel
theorem dX11_text_18 : decode cX11_text 18 = .ok (.getfield 219, 3) := by decide +kernel
theorem dX11_text_21 : decode cX11_text 21 = .ok (.bipush 10, 2) := by decide +kernel
theorem dX11_text_23 : decode cX11_text 23 = .ok (.if_icmp .lt 6, 3) := by decide +kernel
theorem dX11_text_29 : decode cX11_text 29 = .ok (.aload_n 0, 1) := by decide +kernel
theorem dX11_text_30 : decode cX11_text 30 = .ok (.iload_n 1, 1) := by decide +kernel
theorem dX11_text_31 : decode cX11_text 31 = .ok (.invokevirtual 222, 3) := by decide +kernel
theorem kw_3_199 : (Jvm.Cond.methodLink "ParishUnion" (222 : Nat) ({ cls := "ParishUnion", name := "readTape", desc := "(I)I" } : Jvm.MethodName)) ∈ gT := gT_of (tb_3 _ (List.mem_of_getElem? (i := 199) rfl)) rfl
theorem kw_3_202 : (Jvm.Cond.code ({ cls := "ParishUnion", name := "readTape", desc := "(I)I" } : Jvm.MethodName) prog_1_method_59_code (3 : Nat) (Option.some Jvm.ClassFile.FieldType.int)) ∈ gT := gT_of (tb_3 _ (List.mem_of_getElem? (i := 202) rfl)) rfl
theorem okX11_readTape : gQok yX11_readTape cX11_readTape 3 (Option.some Jvm.ClassFile.FieldType.int) 1 := ⟨kw_3_202, kw_1_1, by decide +kernel, by decide +kernel, by decide +kernel⟩
theorem kw_3_201 : (Jvm.Cond.instanceMethod ({ cls := "ParishUnion", name := "readTape", desc := "(I)I" } : Jvm.MethodName)) ∈ gT := gT_of (tb_3 _ (List.mem_of_getElem? (i := 201) rfl)) rfl
theorem kw_0_6 : (Jvm.Cond.selects "ParishUnion" ({ cls := "ParishUnion", name := "readTape", desc := "(I)I" } : Jvm.MethodName) ({ cls := "ParishUnion", name := "readTape", desc := "(I)I" } : Jvm.MethodName)) ∈ gT := gT_of (tb_0 _ (List.mem_of_getElem? (i := 6) rfl)) rfl
theorem dX11_text_34 : decode cX11_text 34 = .ok (.istore_n 2, 1) := by decide +kernel
theorem dX11_text_35 : decode cX11_text 35 = .ok (.iload_n 2, 1) := by decide +kernel
theorem dX11_text_36 : decode cX11_text 36 = .ok (.iconst (-1), 1) := by decide +kernel
theorem dX11_text_37 : decode cX11_text 37 = .ok (.if_icmp .eq 8, 3) := by decide +kernel
theorem dX11_text_40 : decode cX11_text 40 = .ok (.bipush (-10), 2) := by decide +kernel
theorem dX11_text_42 : decode cX11_text 42 = .ok (.iload_n 2, 1) := by decide +kernel
theorem dX11_text_43 : decode cX11_text 43 = .ok (.isub, 1) := by decide +kernel
theorem dX11_text_44 : decode cX11_text 44 = .ok (.ireturn, 1) := by decide +kernel
theorem dX11_text_11 : decode cX11_text 11 = .ok (.bipush (-2), 2) := by decide +kernel
theorem dX11_text_13 : decode cX11_text 13 = .ok (.ireturn, 1) := by decide +kernel
set_option maxRecDepth 100000 in
set_option maxHeartbeats 4000000 in
theorem c_X11_text {l : Launch} {n0 : Nat} {D : va_G} {cA : Nat → ClassId} {M : gM} (a : Int) (r_a : -2147483648 ≤ a ∧ a ≤ 2147483647) {sz : Nat} (hsz : 206 ≤ sz) (f_0_0 : M 0 0 = 2) (f_1_3 : M 1 3 = 8) (f_1_13 : M 1 13 = 0) (f_7_0 : M 7 0 = 88) (f_1_4 : M 1 4 = 9) (f_1_14 : M 1 14 = 0) (f_0_2 : M 0 2 = 160) (f_87_0 : M 87 0 = 89) (f_87_1 : M 87 1 = 90) : Met l yX11_text (gWsOf yX11_text cX11_text 3 (Option.some Jvm.ClassFile.FieldType.int)) { frames := 10, cells := 0, slots := 0, locals := 218 } (gPc n0 D cA [gA n0 0, gJ a] M sz) (gQi n0 D cA sz (fun z M1 => ((¬(0 ≤ a ∧ a ≤ 300) → z = -2) ∧ (0 ≤ a → a ≤ 300 → z = -10)) ∧ ∀ a : Int, a ≠ 1 → a ≠ 87 → a ≠ 88 → a ≠ 89 → a ≠ 90 → a ≠ 159 → M1 a = M a)) 0 0 (fun q => n0 ≤ q) := by
  refine gMet_of [gA n0 0, gJ a] (by decide) (Nat.le_of_ble_eq_true rfl) ?_
  intro p e s m args below meth cd X hr hm
  have X : gCx p s m args meth cd n0 D cA "ParishUnion" cX11_text 3 := X
  show G p l e ({ frames := 10, cells := 0, slots := 0, locals := 218 } : Room) s m args below meth cd n0 D cA 3 (MQ below (gQi n0 D cA sz (fun z M1 => ((¬(0 ≤ a ∧ a ≤ 300) → z = -2) ∧ (0 ≤ a → a ≤ 300 → z = -10)) ∧ ∀ a : Int, a ≠ 1 → a ≠ 87 → a ≠ 88 → a ≠ 89 → a ≠ 90 → a ≠ 159 → M1 a = M a)) args s 0 0 (fun q => n0 ≤ q)) 0 0 M sz 0 [(0, gA n0 0), (1, gJ a)] []
  refine g_iload_n (n := 1) X 1 dX11_text_0 rfl rfl rfl ?_
  refine g_iconst (n := 2) X dX11_text_1 rfl ?_
  refine g_sipush (n := 5) X dX11_text_2 (by decide +kernel) rfl ?_
  refine g_callSi (n := 8) (As := [gJ a, gJ 0, gJ 300]) (rest := []) (cs1 := 0) (ss1 := 0) X (c_X11_within a 0 300 (by omega) (by omega) (by omega) (by omega)) okX11_within kw_3_29 kw_3_30 ⟨rfl, rfl⟩ ⟨Nat.le_of_ble_eq_true rfl, Nat.le_of_ble_eq_true rfl⟩ rfl rfl (Nat.le_of_ble_eq_true rfl) ⟨Nat.le_of_ble_eq_true rfl, Nat.le_of_ble_eq_true rfl⟩ rfl rfl dX11_text_5 rfl (fun z1 M2 P3 => ?_)
  obtain ⟨rfl, P3⟩ := P3
  refine g_if_ne (n := 11) (tgt := 14) X dX11_text_8 (by decide) (by omega) rfl (fun c4 => ?_) (fun c4 => ?_)
  · refine g_aload_n (n := 15) X 0 dX11_text_14 rfl rfl rfl ?_
    refine gg_11_0 (n := 18) (z := 1) X (by omega) (by omega) lay_0 kw_2_231 dX11_text_15 rfl f_0_0 (by omega) ?_
    refine gg_9_13 (n := 21) (z := 0) X (by omega) (by omega) lay_1 kw_2_135 dX11_text_18 rfl f_1_13 ?_
    refine g_bipush (n := 23) X dX11_text_21 (by decide +kernel) rfl ?_
    refine g_icmp_lt (n := 26) (tgt := 29) X dX11_text_23 (by decide) (by omega) (by omega) rfl (fun c5 => ?_) (fun c5 => by exfalso; omega)
    refine g_aload_n (n := 30) X 0 dX11_text_29 rfl rfl rfl ?_
    refine g_iload_n (n := 31) X 1 dX11_text_30 rfl rfl rfl ?_
    refine g_callVi (n := 34) (As := [gJ a]) (rest := []) (cs1 := 0) (ss1 := 0) X (c_X11_readTape a (by omega) (by omega) f_0_0 f_1_3 f_1_13 f_7_0 f_1_4 f_1_14 f_0_2 f_87_0 f_87_1) okX11_readTape kw_3_199 ⟨kw_3_201, kw_0_6⟩ ⟨rfl, rfl⟩ ⟨Nat.le_of_ble_eq_true rfl, Nat.le_of_ble_eq_true rfl⟩ rfl (by omega) (by omega) lay_0 rfl rfl (Nat.le_of_ble_eq_true rfl) ⟨Nat.le_of_ble_eq_true rfl, Nat.le_of_ble_eq_true rfl⟩ rfl rfl dX11_text_31 rfl (fun z6 M7 P8 => ?_)
    obtain ⟨P8, F9⟩ := P8
    obtain rfl : z6 = 0 := P8
    refine g_istore_n (n := 35) (L' := [(2, gJ 0), (0, gA n0 0), (1, gJ a)]) X dX11_text_34 rfl (by decide) rfl rfl ?_
    refine g_iload_n (n := 36) X 0 dX11_text_35 rfl rfl rfl ?_
    refine g_iconst (n := 37) X dX11_text_36 rfl ?_
    refine g_icmp_eq (n := 40) (tgt := 45) X dX11_text_37 (by decide) (by omega) (by omega) rfl (fun c10 => by exfalso; omega) (fun c10 => ?_)
    refine g_bipush (n := 42) X dX11_text_40 (by decide +kernel) rfl ?_
    refine g_iload_n (n := 43) X 0 dX11_text_42 rfl rfl rfl ?_
    refine g_isub (n := 44) (z := (-10)) X dX11_text_43 rfl rfl ?_
    exact g_ireturn X hr dX11_text_44 (by exact ⟨by omega, fun a h0 h1 h2 h3 h4 h5 => ((F9 a (by omega) (by omega) (by omega) (by omega) (by omega) (by omega)).trans rfl)⟩)
  · refine g_bipush (n := 13) X dX11_text_11 (by decide +kernel) rfl ?_
    exact g_ireturn X hr dX11_text_13 (by exact ⟨by omega, fun a h0 h1 h2 h3 h4 h5 => rfl⟩)
theorem dX10_greatestSet_0 : decode cX10_greatestSet 0 = .ok (.iconst 0, 1) := by decide +kernel
theorem dX10_greatestSet_1 : decode cX10_greatestSet 1 = .ok (.istore_n 2, 1) := by decide +kernel
theorem dX10_greatestSet_2 : decode cX10_greatestSet 2 = .ok (.iconst 0, 1) := by decide +kernel
theorem dX10_greatestSet_3 : decode cX10_greatestSet 3 = .ok (.istore_n 3, 1) := by decide +kernel
theorem dX10_greatestSet_4 : decode cX10_greatestSet 4 = .ok (.iload_n 3, 1) := by decide +kernel
theorem dX10_greatestSet_5 : decode cX10_greatestSet 5 = .ok (.aload_n 0, 1) := by decide +kernel
theorem dX10_greatestSet_6 : decode cX10_greatestSet 6 = .ok (.getfield 27, 3) := by decide +kernel
theorem dX10_greatestSet_9 : decode cX10_greatestSet 9 = .ok (.if_icmp .ge 20, 3) := by decide +kernel
theorem dX10_greatestSet_29 : decode cX10_greatestSet 29 = .ok (.iconst 0, 1) := by decide +kernel
theorem dX10_greatestSet_30 : decode cX10_greatestSet 30 = .ok (.istore_n 3, 1) := by decide +kernel
theorem dX10_greatestSet_31 : decode cX10_greatestSet 31 = .ok (.iconst 1, 1) := by decide +kernel
theorem dX10_greatestSet_32 : decode cX10_greatestSet 32 = .ok (.istore 4, 2) := by decide +kernel
theorem dX10_greatestSet_34 : decode cX10_greatestSet 34 = .ok (.iconst 0, 1) := by decide +kernel
theorem dX10_greatestSet_35 : decode cX10_greatestSet 35 = .ok (.istore 5, 2) := by decide +kernel
theorem dX10_greatestSet_37 : decode cX10_greatestSet 37 = .ok (.iload 5, 2) := by decide +kernel
theorem dX10_greatestSet_39 : decode cX10_greatestSet 39 = .ok (.sipush 256, 3) := by decide +kernel
theorem dX10_greatestSet_42 : decode cX10_greatestSet 42 = .ok (.if_icmp .ge 49, 3) := by decide +kernel
theorem dX10_greatestSet_91 : decode cX10_greatestSet 91 = .ok (.iload_n 3, 1) := by decide +kernel
theorem dX10_greatestSet_92 : decode cX10_greatestSet 92 = .ok (.ireturn, 1) := by decide +kernel
theorem dX10_greatestSet_45 : decode cX10_greatestSet 45 = .ok (.iload 5, 2) := by decide +kernel
theorem dX10_greatestSet_47 : decode cX10_greatestSet 47 = .ok (.invokestatic 37, 3) := by decide +kernel
theorem kw_5_107 : (Jvm.Cond.methodLink "ParishUnion$Vagrants" (37 : Nat) ({ cls := "java/lang/Integer", name := "bitCount", desc := "(I)I" } : Jvm.MethodName)) ∈ gT := gT_of (tb_5 _ (List.mem_of_getElem? (i := 107) rfl)) rfl
theorem kw_3_187 : (Jvm.Cond.code ({ cls := "java/lang/Integer", name := "bitCount", desc := "(I)I" } : Jvm.MethodName) prog_15_method_49_code (1 : Nat) (Option.some Jvm.ClassFile.FieldType.int)) ∈ gT := gT_of (tb_3 _ (List.mem_of_getElem? (i := 187) rfl)) rfl
theorem kw_1_15 : (Jvm.Cond.initialized "java/lang/Integer") ∈ gT := gT_of (tb_1 _ (List.mem_of_getElem? (i := 15) rfl)) rfl
theorem okJ_bit : gQok yJ_bit cJ_bit 1 (Option.some Jvm.ClassFile.FieldType.int) 1 := ⟨kw_3_187, kw_1_15, by decide +kernel, by decide +kernel, by decide +kernel⟩
theorem kw_3_186 : (Jvm.Cond.static ({ cls := "java/lang/Integer", name := "bitCount", desc := "(I)I" } : Jvm.MethodName)) ∈ gT := gT_of (tb_3 _ (List.mem_of_getElem? (i := 186) rfl)) rfl
theorem dX10_greatestSet_50 : decode cX10_greatestSet 50 = .ok (.istore 6, 2) := by decide +kernel
theorem dX10_greatestSet_52 : decode cX10_greatestSet 52 = .ok (.iload 5, 2) := by decide +kernel
theorem dX10_greatestSet_54 : decode cX10_greatestSet 54 = .ok (.iload_n 2, 1) := by decide +kernel
theorem dX10_greatestSet_55 : decode cX10_greatestSet 55 = .ok (.iconst (-1), 1) := by decide +kernel
theorem dX10_greatestSet_56 : decode cX10_greatestSet 56 = .ok (.ixor, 1) := by decide +kernel
theorem dX10_greatestSet_57 : decode cX10_greatestSet 57 = .ok (.iand, 1) := by decide +kernel
theorem dX10_greatestSet_58 : decode cX10_greatestSet 58 = .ok (.ifCond .ne 27, 3) := by decide +kernel
theorem dX10_greatestSet_85 : decode cX10_greatestSet 85 = .ok (.iinc 5 1, 3) := by decide +kernel
theorem dX10_greatestSet_88 : decode cX10_greatestSet 88 = .ok (.goto (-51), 3) := by decide +kernel
theorem dX10_greatestSet_61 : decode cX10_greatestSet 61 = .ok (.iload 6, 2) := by decide +kernel
theorem dX10_greatestSet_63 : decode cX10_greatestSet 63 = .ok (.iload 4, 2) := by decide +kernel
theorem dX10_greatestSet_65 : decode cX10_greatestSet 65 = .ok (.if_icmp .le 20, 3) := by decide +kernel
set_option maxRecDepth 100000 in
set_option maxHeartbeats 4000000 in
theorem c_X10_greatestSet {l : Launch} {n0 : Nat} {D : va_G} {cA : Nat → ClassId} {M : gM}  {sz : Nat} (hsz : 206 ≤ sz) (f_26_3 : M 26 3 = 0) : Met l yX10_greatestSet (gWsOf yX10_greatestSet cX10_greatestSet 7 (Option.some Jvm.ClassFile.FieldType.int)) { frames := 2, cells := 0, slots := 0, locals := 47 } (gPc n0 D cA [gA n0 26, gA n0 2] M sz) (gQi n0 D cA sz (fun z M1 => M = M1 ∧ (z = 0))) 0 0 (fun q => n0 ≤ q) := by
  refine gMet_of [gA n0 26, gA n0 2] (by decide) (Nat.le_of_ble_eq_true rfl) ?_
  intro p e s m args below meth cd X hr hm
  have X : gCx p s m args meth cd n0 D cA "ParishUnion$Vagrants" cX10_greatestSet 7 := X
  show G p l e ({ frames := 2, cells := 0, slots := 0, locals := 47 } : Room) s m args below meth cd n0 D cA 7 (MQ below (gQi n0 D cA sz (fun z M1 => M = M1 ∧ (z = 0))) args s 0 0 (fun q => n0 ≤ q)) 0 0 M sz 0 [(0, gA n0 26), (1, gA n0 2)] []
  refine g_iconst (n := 1) X dX10_greatestSet_0 rfl ?_
  refine g_istore_n (n := 2) (L' := [(2, gJ 0), (0, gA n0 26), (1, gA n0 2)]) X dX10_greatestSet_1 rfl (by decide) rfl rfl ?_
  refine g_iconst (n := 3) X dX10_greatestSet_2 rfl ?_
  refine g_istore_n (n := 4) (L' := [(3, gJ 0), (2, gJ 0), (0, gA n0 26), (1, gA n0 2)]) X dX10_greatestSet_3 rfl (by decide) rfl rfl ?_
  refine g_iload_n (n := 5) X 0 dX10_greatestSet_4 rfl rfl rfl ?_
  refine g_aload_n (n := 6) X 2 dX10_greatestSet_5 rfl rfl rfl ?_
  refine gg_10_3 (n := 9) (z := 0) X (by omega) (by omega) lay_26 kw_1_159 dX10_greatestSet_6 rfl f_26_3 ?_
  refine g_icmp_ge (n := 12) (tgt := 29) X dX10_greatestSet_9 (by decide) (by omega) (by omega) rfl (fun c1 => ?_) (fun c1 => by exfalso; omega)
  refine g_iconst (n := 30) X dX10_greatestSet_29 rfl ?_
  refine g_istore_n (n := 31) (L' := [(3, gJ 0), (2, gJ 0), (0, gA n0 26), (1, gA n0 2)]) X dX10_greatestSet_30 rfl (by decide) rfl rfl ?_
  refine g_iconst (n := 32) X dX10_greatestSet_31 rfl ?_
  refine g_istore (n := 34) (L' := [(4, gJ 1), (3, gJ 0), (2, gJ 0), (0, gA n0 26), (1, gA n0 2)]) X dX10_greatestSet_32 (by decide) rfl rfl ?_
  refine g_iconst (n := 35) X dX10_greatestSet_34 rfl ?_
  refine g_istore (n := 37) (L' := [(5, gJ 0), (4, gJ 1), (3, gJ 0), (2, gJ 0), (0, gA n0 26), (1, gA n0 2)]) X dX10_greatestSet_35 (by decide) rfl rfl ?_
  have loop2 : ∀ (N4 : Nat) (nm : Int), (0 ≤ nm ∧ nm ≤ 256) → (256 - nm).toNat < N4 → G p l e ({ frames := 2, cells := 0, slots := 0, locals := 47 } : Room) s m args below meth cd n0 D cA 7 (MQ below (gQi n0 D cA sz (fun z M1 => M = M1 ∧ (z = 0))) args s 0 0 (fun q => n0 ≤ q)) 0 0 M sz 37 [(0, gA n0 26), (1, gA n0 2), (2, gJ 0), (3, gJ 0), (4, gJ 1), (5, gJ nm)] [] := by
    intro N4; induction N4 with
    | zero => intro nm  inm hm5; exfalso; omega
    | succ N4 ih3 =>
      intro nm  inm hm5
      refine g_iload (n := 39) X 5 dX10_greatestSet_37 rfl rfl ?_
      refine g_sipush (n := 42) X dX10_greatestSet_39 (by decide +kernel) rfl ?_
      refine g_icmp_ge (n := 45) (tgt := 91) X dX10_greatestSet_42 (by decide) (by omega) (by omega) rfl (fun c7 => ?_) (fun c7 => ?_)
      · refine g_iload_n (n := 92) X 3 dX10_greatestSet_91 rfl rfl rfl ?_
        exact g_ireturn X hr dX10_greatestSet_92 (by exact ⟨rfl, by omega⟩)
      · refine g_iload (n := 47) X 5 dX10_greatestSet_45 rfl rfl ?_
        refine g_callSi (n := 50) (As := [gJ nm]) (rest := []) (cs1 := 0) (ss1 := 0) X (c_J_bit nm (by omega) (by omega)) okJ_bit kw_5_107 kw_3_186 ⟨rfl, rfl⟩ ⟨Nat.le_of_ble_eq_true rfl, Nat.le_of_ble_eq_true rfl⟩ rfl rfl (Nat.le_of_ble_eq_true rfl) ⟨Nat.le_of_ble_eq_true rfl, Nat.le_of_ble_eq_true rfl⟩ rfl rfl dX10_greatestSet_47 rfl (fun z8 M9 P10 => ?_)
        obtain ⟨rfl, P10⟩ := P10
        refine g_istore (n := 52) (L' := [(6, gJ z8), (0, gA n0 26), (1, gA n0 2), (2, gJ 0), (3, gJ 0), (4, gJ 1), (5, gJ nm)]) X dX10_greatestSet_50 (by decide) rfl rfl ?_
        refine g_iload (n := 54) X 6 dX10_greatestSet_52 rfl rfl ?_
        refine g_iload_n (n := 55) X 3 dX10_greatestSet_54 rfl rfl rfl ?_
        refine g_iconst (n := 56) X dX10_greatestSet_55 rfl ?_
        refine g_ixorE (n := 57) (z := (-1)) X dX10_greatestSet_56 (by decide +kernel) rfl ?_
        refine g_iandE (n := 58) (z := nm) X dX10_greatestSet_57 (gi_and_m1 _) rfl ?_
        refine g_if_ne (n := 61) (tgt := 85) X dX10_greatestSet_58 (by decide) (by omega) rfl (fun c11 => ?_) (fun c11 => ?_)
        · refine g_iinc (n := 88) (w := nm + 1) (L' := [(5, gJ (nm + 1)), (6, gJ z8), (0, gA n0 26), (1, gA n0 2), (2, gJ 0), (3, gJ 0), (4, gJ 1)]) X 6 dX10_greatestSet_85 rfl rfl (by decide) rfl rfl ?_
          refine g_goto (tgt := 37) X dX10_greatestSet_88 (by decide) ?_
          refine G.sub (L' := [(0, gA n0 26), (1, gA n0 2), (2, gJ 0), (3, gJ 0), (4, gJ 1), (5, gJ (nm + 1))]) [2, 3, 4, 5, 6, 0] rfl ?_
          exact ih3 (nm + 1) (by omega) (by omega)
        · refine g_iload (n := 63) X 0 dX10_greatestSet_61 rfl rfl ?_
          refine g_iload (n := 65) X 5 dX10_greatestSet_63 rfl rfl ?_
          refine g_icmp_le (n := 68) (tgt := 85) X dX10_greatestSet_65 (by decide) (by omega) (by omega) rfl (fun c12 => ?_) (fun c12 => by exfalso; omega)
          refine g_iinc (n := 88) (w := nm + 1) (L' := [(5, gJ (nm + 1)), (6, gJ z8), (0, gA n0 26), (1, gA n0 2), (2, gJ 0), (3, gJ 0), (4, gJ 1)]) X 6 dX10_greatestSet_85 rfl rfl (by decide) rfl rfl ?_
          refine g_goto (tgt := 37) X dX10_greatestSet_88 (by decide) ?_
          refine G.sub (L' := [(0, gA n0 26), (1, gA n0 2), (2, gJ 0), (3, gJ 0), (4, gJ 1), (5, gJ (nm + 1))]) [2, 3, 4, 5, 6, 0] rfl ?_
          exact ih3 (nm + 1) (by omega) (by omega)
  refine G.sub (L' := [(0, gA n0 26), (1, gA n0 2), (2, gJ 0), (3, gJ 0), (4, gJ 1), (5, gJ 0)]) [4, 5, 3, 2, 1, 0] rfl ?_
  exact loop2 _ 0 (by omega) (Nat.lt_succ_self _)
theorem dX11_greatest_0 : decode cX11_greatest 0 = .ok (.aload_n 0, 1) := by decide +kernel
theorem dX11_greatest_1 : decode cX11_greatest 1 = .ok (.getfield 10, 3) := by decide +kernel
theorem dX11_greatest_4 : decode cX11_greatest 4 = .ok (.getfield 336, 3) := by decide +kernel
theorem dX11_greatest_7 : decode cX11_greatest 7 = .ok (.aload_n 0, 1) := by decide +kernel
theorem dX11_greatest_8 : decode cX11_greatest 8 = .ok (.getfield 10, 3) := by decide +kernel
theorem dX11_greatest_11 : decode cX11_greatest 11 = .ok (.getfield 66, 3) := by decide +kernel
theorem dX11_greatest_14 : decode cX11_greatest 14 = .ok (.invokevirtual 351, 3) := by decide +kernel
theorem kw_5_103 : (Jvm.Cond.methodLink "ParishUnion" (351 : Nat) ({ cls := "ParishUnion$Vagrants", name := "greatestSet", desc := "(LParishUnion$Land;)I" } : Jvm.MethodName)) ∈ gT := gT_of (tb_5 _ (List.mem_of_getElem? (i := 103) rfl)) rfl
theorem kw_5_106 : (Jvm.Cond.code ({ cls := "ParishUnion$Vagrants", name := "greatestSet", desc := "(LParishUnion$Land;)I" } : Jvm.MethodName) prog_12_method_5_code (7 : Nat) (Option.some Jvm.ClassFile.FieldType.int)) ∈ gT := gT_of (tb_5 _ (List.mem_of_getElem? (i := 106) rfl)) rfl
theorem okX10_greatestSet : gQok yX10_greatestSet cX10_greatestSet 7 (Option.some Jvm.ClassFile.FieldType.int) 1 := ⟨kw_5_106, kw_1_7, by decide +kernel, by decide +kernel, by decide +kernel⟩
theorem kw_5_104 : (Jvm.Cond.instanceMethod ({ cls := "ParishUnion$Vagrants", name := "greatestSet", desc := "(LParishUnion$Land;)I" } : Jvm.MethodName)) ∈ gT := gT_of (tb_5 _ (List.mem_of_getElem? (i := 104) rfl)) rfl
theorem kw_5_105 : (Jvm.Cond.selects "ParishUnion$Vagrants" ({ cls := "ParishUnion$Vagrants", name := "greatestSet", desc := "(LParishUnion$Land;)I" } : Jvm.MethodName) ({ cls := "ParishUnion$Vagrants", name := "greatestSet", desc := "(LParishUnion$Land;)I" } : Jvm.MethodName)) ∈ gT := gT_of (tb_5 _ (List.mem_of_getElem? (i := 105) rfl)) rfl
theorem dX11_greatest_17 : decode cX11_greatest 17 = .ok (.ireturn, 1) := by decide +kernel
set_option maxRecDepth 100000 in
set_option maxHeartbeats 4000000 in
theorem c_X11_greatest {l : Launch} {n0 : Nat} {D : va_G} {cA : Nat → ClassId} {M : gM}  {sz : Nat} (hsz : 206 ≤ sz) (f_0_0 : M 0 0 = 2) (f_1_8 : M 1 8 = 27) (f_1_0 : M 1 0 = 3) (f_26_3 : M 26 3 = 0) : Met l yX11_greatest (gWsOf yX11_greatest cX11_greatest 1 (Option.some Jvm.ClassFile.FieldType.int)) { frames := 3, cells := 0, slots := 0, locals := 73 } (gPc n0 D cA [gA n0 0] M sz) (gQi n0 D cA sz (fun z M1 => (z = 0) ∧ ∀ a : Int, M1 a = M a)) 0 0 (fun q => n0 ≤ q) := by
  refine gMet_of [gA n0 0] (by decide) (Nat.le_of_ble_eq_true rfl) ?_
  intro p e s m args below meth cd X hr hm
  have X : gCx p s m args meth cd n0 D cA "ParishUnion" cX11_greatest 1 := X
  show G p l e ({ frames := 3, cells := 0, slots := 0, locals := 73 } : Room) s m args below meth cd n0 D cA 1 (MQ below (gQi n0 D cA sz (fun z M1 => (z = 0) ∧ ∀ a : Int, M1 a = M a)) args s 0 0 (fun q => n0 ≤ q)) 0 0 M sz 0 [(0, gA n0 0)] []
  refine g_aload_n (n := 1) X 0 dX11_greatest_0 rfl rfl rfl ?_
  refine gg_11_0 (n := 4) (z := 1) X (by omega) (by omega) lay_0 kw_2_231 dX11_greatest_1 rfl f_0_0 (by omega) ?_
  refine gg_9_8 (n := 7) (z := 26) X (by omega) (by omega) lay_1 kw_2_123 dX11_greatest_4 rfl f_1_8 (by omega) ?_
  refine g_aload_n (n := 8) X 0 dX11_greatest_7 rfl rfl rfl ?_
  refine gg_11_0 (n := 11) (z := 1) X (by omega) (by omega) lay_0 kw_2_231 dX11_greatest_8 rfl f_0_0 (by omega) ?_
  refine gg_9_0 (n := 14) (z := 2) X (by omega) (by omega) lay_1 kw_2_105 dX11_greatest_11 rfl f_1_0 (by omega) ?_
  refine g_callVi (n := 17) (As := [gA n0 2]) (rest := []) (cs1 := 0) (ss1 := 0) X (c_X10_greatestSet (by omega) f_26_3) okX10_greatestSet kw_5_103 ⟨kw_5_104, kw_5_105⟩ ⟨rfl, rfl⟩ ⟨Nat.le_of_ble_eq_true rfl, Nat.le_of_ble_eq_true rfl⟩ rfl (by omega) (by omega) lay_26 rfl rfl (Nat.le_of_ble_eq_true rfl) ⟨Nat.le_of_ble_eq_true rfl, Nat.le_of_ble_eq_true rfl⟩ rfl rfl dX11_greatest_14 rfl (fun z1 M2 P3 => ?_)
  obtain ⟨rfl, rfl⟩ := P3
  exact g_ireturn X hr dX11_greatest_17 (by exact ⟨by omega, fun a  => rfl⟩)
