theorem dX12_here_0 : decode cX12_here 0 = .ok (.aload_n 0, 1) := by decide +kernel
theorem dX12_here_1 : decode cX12_here 1 = .ok (.getfield 129, 3) := by decide +kernel
theorem kw_6_38 : (Jvm.Cond.fieldLink "ParishUnionModel" (129 : Nat) "ParishUnionModel" "spot" "I") ∈ gT := gT_of (tb_6 _ (List.mem_of_getElem? (i := 38) rfl)) rfl
theorem dX12_here_4 : decode cX12_here 4 = .ok (.aload_n 0, 1) := by decide +kernel
theorem dX12_here_5 : decode cX12_here 5 = .ok (.getfield 7, 3) := by decide +kernel
theorem dX12_here_8 : decode cX12_here 8 = .ok (.sipush 668, 3) := by decide +kernel
theorem dX12_here_11 : decode cX12_here 11 = .ok (.aload_n 0, 1) := by decide +kernel
theorem dX12_here_12 : decode cX12_here 12 = .ok (.getfield 132, 3) := by decide +kernel
theorem kw_6_37 : (Jvm.Cond.fieldLink "ParishUnionModel" (132 : Nat) "ParishUnionModel" "act" "I") ∈ gT := gT_of (tb_6 _ (List.mem_of_getElem? (i := 37) rfl)) rfl
theorem dX12_here_15 : decode cX12_here 15 = .ok (.iadd, 1) := by decide +kernel
theorem dX12_here_16 : decode cX12_here 16 = .ok (.iaload, 1) := by decide +kernel
theorem dX12_here_17 : decode cX12_here 17 = .ok (.if_icmp .ge 28, 3) := by decide +kernel
theorem dX12_here_45 : decode cX12_here 45 = .ok (.iconst (-1), 1) := by decide +kernel
theorem dX12_here_46 : decode cX12_here 46 = .ok (.ireturn, 1) := by decide +kernel
set_option maxRecDepth 100000 in
set_option maxHeartbeats 4000000 in
theorem c_X12_here {l : Launch} {n0 : Nat} {D : va_G} {cA : Nat → ClassId} {M : gM}  {sz : Nat} (hsz : 206 ≤ sz) (f_190_1 : M 190 1 = 192) (f_190_12 : M 190 12 = 0) (f_190_11 : M 190 11 = 0) (f_191_668 : M 191 668 = 0) : Met l yX12_here (gWsOf yX12_here cX12_here 1 (Option.some Jvm.ClassFile.FieldType.int)) { frames := 0, cells := 0, slots := 0, locals := 0 } (gPc n0 D cA [gA n0 190] M sz) (gQi n0 D cA sz (fun z M1 => M = M1 ∧ (z = -1))) 0 0 (fun q => n0 ≤ q) := by
  refine gMet_of [gA n0 190] (by decide) (Nat.le_of_ble_eq_true rfl) ?_
  intro p e s m args below meth cd X hr hm
  have X : gCx p s m args meth cd n0 D cA "ParishUnionModel" cX12_here 1 := X
  show G p l e ({ frames := 0, cells := 0, slots := 0, locals := 0 } : Room) s m args below meth cd n0 D cA 1 (MQ below (gQi n0 D cA sz (fun z M1 => M = M1 ∧ (z = -1))) args s 0 0 (fun q => n0 ≤ q)) 0 0 M sz 0 [(0, gA n0 190)] []
  refine g_aload_n (n := 1) X 0 dX12_here_0 rfl rfl rfl ?_
  refine gg_12_12 (n := 4) (z := 0) X (by omega) (by omega) lay_190 kw_6_38 dX12_here_1 rfl f_190_12 ?_
  refine g_aload_n (n := 5) X 0 dX12_here_4 rfl rfl rfl ?_
  refine gg_12_1 (n := 8) (z := 191) X (by omega) (by omega) lay_190 kw_6_27 dX12_here_5 rfl f_190_1 (by omega) ?_
  refine g_sipush (n := 11) X dX12_here_8 (by decide +kernel) rfl ?_
  refine g_aload_n (n := 12) X 0 dX12_here_11 rfl rfl rfl ?_
  refine gg_12_11 (n := 15) (z := 0) X (by omega) (by omega) lay_190 kw_6_37 dX12_here_12 rfl f_190_11 ?_
  refine g_iadd (n := 16) (z := 668) X dX12_here_15 rfl rfl ?_
  refine g_iald (n := 17) X (by omega) (by omega) lay_191 (by omega) (by omega) (by omega) dX12_here_16 rfl ?_
  rw [show M 191 668 = 0 from f_191_668]
  refine g_icmp_ge (n := 20) (tgt := 45) X dX12_here_17 (by decide) (by omega) (by omega) rfl (fun c1 => ?_) (fun c1 => by exfalso; omega)
  refine g_iconst (n := 46) X dX12_here_45 rfl ?_
  exact g_ireturn X hr dX12_here_46 (by exact ⟨rfl, by omega⟩)
theorem dX12_oneWord_0 : decode cX12_oneWord 0 = .ok (.sipush 1023, 3) := by decide +kernel
theorem dX12_oneWord_3 : decode cX12_oneWord 3 = .ok (.istore_n 1, 1) := by decide +kernel
theorem dX12_oneWord_4 : decode cX12_oneWord 4 = .ok (.iconst 0, 1) := by decide +kernel
theorem dX12_oneWord_5 : decode cX12_oneWord 5 = .ok (.istore_n 2, 1) := by decide +kernel
theorem dX12_oneWord_6 : decode cX12_oneWord 6 = .ok (.iconst 0, 1) := by decide +kernel
theorem dX12_oneWord_7 : decode cX12_oneWord 7 = .ok (.istore_n 3, 1) := by decide +kernel
theorem dX12_oneWord_8 : decode cX12_oneWord 8 = .ok (.iconst 0, 1) := by decide +kernel
theorem dX12_oneWord_9 : decode cX12_oneWord 9 = .ok (.istore 4, 2) := by decide +kernel
theorem dX12_oneWord_11 : decode cX12_oneWord 11 = .ok (.iload 4, 2) := by decide +kernel
theorem dX12_oneWord_13 : decode cX12_oneWord 13 = .ok (.bipush 10, 2) := by decide +kernel
theorem dX12_oneWord_15 : decode cX12_oneWord 15 = .ok (.if_icmp .ge 58, 3) := by decide +kernel
theorem dX12_oneWord_18 : decode cX12_oneWord 18 = .ok (.iload_n 3, 1) := by decide +kernel
theorem dX12_oneWord_19 : decode cX12_oneWord 19 = .ok (.iload_n 1, 1) := by decide +kernel
theorem dX12_oneWord_20 : decode cX12_oneWord 20 = .ok (.iload 4, 2) := by decide +kernel
theorem dX12_oneWord_22 : decode cX12_oneWord 22 = .ok (.ishr, 1) := by decide +kernel
theorem dX12_oneWord_23 : decode cX12_oneWord 23 = .ok (.iconst 1, 1) := by decide +kernel
theorem dX12_oneWord_24 : decode cX12_oneWord 24 = .ok (.iand, 1) := by decide +kernel
theorem dX12_oneWord_25 : decode cX12_oneWord 25 = .ok (.iconst 1, 1) := by decide +kernel
theorem dX12_oneWord_26 : decode cX12_oneWord 26 = .ok (.if_icmp .ne 38, 3) := by decide +kernel
theorem dX12_oneWord_29 : decode cX12_oneWord 29 = .ok (.iload_n 2, 1) := by decide +kernel
theorem dX12_oneWord_30 : decode cX12_oneWord 30 = .ok (.iload 4, 2) := by decide +kernel
theorem dX12_oneWord_32 : decode cX12_oneWord 32 = .ok (.invokestatic 163, 3) := by decide +kernel
theorem kw_7_13 : (Jvm.Cond.code ({ cls := "ParishUnionModel", name := "word", desc := "(I)Ljava/lang/String;" } : Jvm.MethodName) prog_14_method_37_code (1 : Nat) (Option.some (Jvm.ClassFile.FieldType.object "java/lang/String"))) ∈ gT := gT_of (tb_7 _ (List.mem_of_getElem? (i := 13) rfl)) rfl
theorem okX12_word : gQok yX12_word cX12_word 1 (Option.some (Jvm.ClassFile.FieldType.object "java/lang/String")) 1 := ⟨kw_7_13, kw_1_13, by decide +kernel, by decide +kernel, by decide +kernel⟩
theorem kw_7_11 : (Jvm.Cond.methodLink "ParishUnionModel" (163 : Nat) ({ cls := "ParishUnionModel", name := "word", desc := "(I)Ljava/lang/String;" } : Jvm.MethodName)) ∈ gT := gT_of (tb_7 _ (List.mem_of_getElem? (i := 11) rfl)) rfl
theorem kw_7_12 : (Jvm.Cond.static ({ cls := "ParishUnionModel", name := "word", desc := "(I)Ljava/lang/String;" } : Jvm.MethodName)) ∈ gT := gT_of (tb_7 _ (List.mem_of_getElem? (i := 12) rfl)) rfl
theorem dX12_oneWord_35 : decode cX12_oneWord 35 = .ok (.invokevirtual 167, 3) := by decide +kernel
theorem kw_7_24 : (Jvm.Cond.methodLink "ParishUnionModel" (167 : Nat) ({ cls := "java/lang/String", name := "length", desc := "()I" } : Jvm.MethodName)) ∈ gT := gT_of (tb_7 _ (List.mem_of_getElem? (i := 24) rfl)) rfl
theorem dX12_oneWord_38 : decode cX12_oneWord 38 = .ok (.if_icmp .ge 26, 3) := by decide +kernel
theorem dX12_oneWord_41 : decode cX12_oneWord 41 = .ok (.iload 4, 2) := by decide +kernel
theorem dX12_oneWord_43 : decode cX12_oneWord 43 = .ok (.invokestatic 163, 3) := by decide +kernel
theorem dX12_oneWord_46 : decode cX12_oneWord 46 = .ok (.iload_n 2, 1) := by decide +kernel
theorem dX12_oneWord_47 : decode cX12_oneWord 47 = .ok (.invokevirtual 172, 3) := by decide +kernel
theorem kw_7_25 : (Jvm.Cond.methodLink "ParishUnionModel" (172 : Nat) ({ cls := "java/lang/String", name := "charAt", desc := "(I)C" } : Jvm.MethodName)) ∈ gT := gT_of (tb_7 _ (List.mem_of_getElem? (i := 25) rfl)) rfl
theorem kw_4_6 : (Jvm.Cond.instanceMethod ({ cls := "java/lang/String", name := "charAt", desc := "(I)C" } : Jvm.MethodName)) ∈ gT := gT_of (tb_4 _ (List.mem_of_getElem? (i := 6) rfl)) rfl
theorem kw_4_7 : (Jvm.Cond.selects "java/lang/String" ({ cls := "java/lang/String", name := "charAt", desc := "(I)C" } : Jvm.MethodName) ({ cls := "java/lang/String", name := "charAt", desc := "(I)C" } : Jvm.MethodName)) ∈ gT := gT_of (tb_4 _ (List.mem_of_getElem? (i := 7) rfl)) rfl
theorem dX12_oneWord_50 : decode cX12_oneWord 50 = .ok (.aload_n 0, 1) := by decide +kernel
theorem dX12_oneWord_51 : decode cX12_oneWord 51 = .ok (.invokevirtual 139, 3) := by decide +kernel
theorem kw_7_26 : (Jvm.Cond.methodLink "ParishUnionModel" (139 : Nat) ({ cls := "ParishUnionModel", name := "here", desc := "()I" } : Jvm.MethodName)) ∈ gT := gT_of (tb_7 _ (List.mem_of_getElem? (i := 26) rfl)) rfl
theorem kw_7_29 : (Jvm.Cond.code ({ cls := "ParishUnionModel", name := "here", desc := "()I" } : Jvm.MethodName) prog_14_method_35_code (1 : Nat) (Option.some Jvm.ClassFile.FieldType.int)) ∈ gT := gT_of (tb_7 _ (List.mem_of_getElem? (i := 29) rfl)) rfl
theorem okX12_here : gQok yX12_here cX12_here 1 (Option.some Jvm.ClassFile.FieldType.int) 0 := ⟨kw_7_29, kw_1_13, by decide +kernel, by decide +kernel, by decide +kernel⟩
theorem kw_7_28 : (Jvm.Cond.instanceMethod ({ cls := "ParishUnionModel", name := "here", desc := "()I" } : Jvm.MethodName)) ∈ gT := gT_of (tb_7 _ (List.mem_of_getElem? (i := 28) rfl)) rfl
theorem kw_0_58 : (Jvm.Cond.selects "ParishUnionModel" ({ cls := "ParishUnionModel", name := "here", desc := "()I" } : Jvm.MethodName) ({ cls := "ParishUnionModel", name := "here", desc := "()I" } : Jvm.MethodName)) ∈ gT := gT_of (tb_0 _ (List.mem_of_getElem? (i := 58) rfl)) rfl
theorem dX12_oneWord_54 : decode cX12_oneWord 54 = .ok (.if_icmp .ne 10, 3) := by decide +kernel
theorem dX12_oneWord_64 : decode cX12_oneWord 64 = .ok (.iconst 0, 1) := by decide +kernel
theorem dX12_oneWord_65 : decode cX12_oneWord 65 = .ok (.ior, 1) := by decide +kernel
theorem dX12_oneWord_66 : decode cX12_oneWord 66 = .ok (.istore_n 3, 1) := by decide +kernel
theorem dX12_oneWord_67 : decode cX12_oneWord 67 = .ok (.iinc 4 1, 3) := by decide +kernel
theorem dX12_oneWord_70 : decode cX12_oneWord 70 = .ok (.goto (-59), 3) := by decide +kernel
theorem dX12_oneWord_73 : decode cX12_oneWord 73 = .ok (.iload_n 3, 1) := by decide +kernel
theorem dX12_oneWord_74 : decode cX12_oneWord 74 = .ok (.ifCond .ne 10, 3) := by decide +kernel
theorem dX12_oneWord_77 : decode cX12_oneWord 77 = .ok (.aload_n 0, 1) := by decide +kernel
theorem dX12_oneWord_78 : decode cX12_oneWord 78 = .ok (.iconst 1, 1) := by decide +kernel
theorem dX12_oneWord_79 : decode cX12_oneWord 79 = .ok (.putfield 135, 3) := by decide +kernel
theorem kw_6_39 : (Jvm.Cond.fieldLink "ParishUnionModel" (135 : Nat) "ParishUnionModel" "isWrong" "Z") ∈ gT := gT_of (tb_6 _ (List.mem_of_getElem? (i := 39) rfl)) rfl
theorem dX12_oneWord_82 : decode cX12_oneWord 82 = .ok (.iconst 0, 1) := by decide +kernel
theorem dX12_oneWord_83 : decode cX12_oneWord 83 = .ok (.ireturn, 1) := by decide +kernel
set_option maxRecDepth 100000 in
set_option maxHeartbeats 4000000 in
theorem c_X12_oneWord {l : Launch} {n0 : Nat} {D : va_G} {cA : Nat → ClassId} {M : gM}  {sz : Nat} (hsz : 206 ≤ sz) (f_190_1 : M 190 1 = 192) (f_190_12 : M 190 12 = 0) (f_190_11 : M 190 11 = 0) (f_191_668 : M 191 668 = 0) : Met l yX12_oneWord (gWsOf yX12_oneWord cX12_oneWord 5 (Option.some Jvm.ClassFile.FieldType.int)) { frames := 4, cells := 0, slots := 0, locals := 85 } (gPc n0 D cA [gA n0 190] M sz) (gQi n0 D cA sz (fun z M1 => (z = 0) ∧ M1 190 12 = 0 ∧ M1 190 13 = 1 ∧ M1 190 1 = 192 ∧ ∀ a : Int, a ≠ 190 → M1 a = M a)) 0 0 (fun q => n0 ≤ q) := by
  refine gMet_of [gA n0 190] (by decide) (Nat.le_of_ble_eq_true rfl) ?_
  intro p e s m args below meth cd X hr hm
  have X : gCx p s m args meth cd n0 D cA "ParishUnionModel" cX12_oneWord 5 := X
  show G p l e ({ frames := 4, cells := 0, slots := 0, locals := 85 } : Room) s m args below meth cd n0 D cA 5 (MQ below (gQi n0 D cA sz (fun z M1 => (z = 0) ∧ M1 190 12 = 0 ∧ M1 190 13 = 1 ∧ M1 190 1 = 192 ∧ ∀ a : Int, a ≠ 190 → M1 a = M a)) args s 0 0 (fun q => n0 ≤ q)) 0 0 M sz 0 [(0, gA n0 190)] []
  refine g_sipush (n := 3) X dX12_oneWord_0 (by decide +kernel) rfl ?_
  refine g_istore_n (n := 4) (L' := [(1, gJ 1023), (0, gA n0 190)]) X dX12_oneWord_3 rfl (by decide) rfl rfl ?_
  refine g_iconst (n := 5) X dX12_oneWord_4 rfl ?_
  refine g_istore_n (n := 6) (L' := [(2, gJ 0), (1, gJ 1023), (0, gA n0 190)]) X dX12_oneWord_5 rfl (by decide) rfl rfl ?_
  refine g_iconst (n := 7) X dX12_oneWord_6 rfl ?_
  refine g_istore_n (n := 8) (L' := [(3, gJ 0), (2, gJ 0), (1, gJ 1023), (0, gA n0 190)]) X dX12_oneWord_7 rfl (by decide) rfl rfl ?_
  refine g_iconst (n := 9) X dX12_oneWord_8 rfl ?_
  refine g_istore (n := 11) (L' := [(4, gJ 0), (3, gJ 0), (2, gJ 0), (1, gJ 1023), (0, gA n0 190)]) X dX12_oneWord_9 (by decide) rfl rfl ?_
  refine g_iload (n := 13) X 0 dX12_oneWord_11 rfl rfl ?_
  refine g_bipush (n := 15) X dX12_oneWord_13 (by decide +kernel) rfl ?_
  refine g_icmp_ge (n := 18) (tgt := 73) X dX12_oneWord_15 (by decide) (by omega) (by omega) rfl (fun c1 => by exfalso; omega) (fun c1 => ?_)
  refine g_iload_n (n := 19) X 1 dX12_oneWord_18 rfl rfl rfl ?_
  refine g_iload_n (n := 20) X 3 dX12_oneWord_19 rfl rfl rfl ?_
  refine g_iload (n := 22) X 0 dX12_oneWord_20 rfl rfl ?_
  refine g_ishrE (n := 23) (z := 1023) X dX12_oneWord_22 (by decide +kernel) rfl ?_
  refine g_iconst (n := 24) X dX12_oneWord_23 rfl ?_
  refine g_iandE (n := 25) (z := 1) X dX12_oneWord_24 (by decide +kernel) rfl ?_
  refine g_iconst (n := 26) X dX12_oneWord_25 rfl ?_
  refine g_icmp_ne (n := 29) (tgt := 64) X dX12_oneWord_26 (by decide) (by omega) (by omega) rfl (fun c2 => by exfalso; omega) (fun c2 => ?_)
  refine g_iload_n (n := 30) X 2 dX12_oneWord_29 rfl rfl rfl ?_
  refine g_iload (n := 32) X 0 dX12_oneWord_30 rfl rfl ?_
  refine g_callSs (n := 35) (As := [gJ 0]) (rest := [gJ 0, gJ 0]) (cs1 := 0) (ss1 := 0) X (c_X12_word 0 (by omega) (by omega)) okX12_word kw_7_11 kw_7_12 ⟨rfl, rfl⟩ ⟨Nat.le_of_ble_eq_true rfl, Nat.le_of_ble_eq_true rfl⟩ rfl rfl (Nat.le_of_ble_eq_true rfl) ⟨Nat.le_of_ble_eq_true rfl, Nat.le_of_ble_eq_true rfl⟩ rfl rfl dX12_oneWord_32 rfl (fun z3 M4 P5 => ?_)
  obtain ⟨rfl, P5⟩ := P5
  obtain rfl : z3 = 16 := by omega
  refine G.str (i := 16) rfl ?_
  refine g_callSt (n := 38) (As := []) (rest := [gJ 0, gJ 0]) (cs1 := 0) (ss1 := 0) X 16 rfl c_J_len_16 okJ_len kw_7_24 ⟨kw_3_236, kw_3_237⟩ ⟨rfl, rfl⟩ ⟨Nat.le_of_ble_eq_true rfl, Nat.le_of_ble_eq_true rfl⟩ rfl rfl (Nat.le_of_ble_eq_true rfl) ⟨Nat.le_of_ble_eq_true rfl, Nat.le_of_ble_eq_true rfl⟩ rfl rfl dX12_oneWord_35 rfl (fun z6 M7 P8 => ?_)
  obtain ⟨rfl, rfl⟩ := P8
  refine g_icmp_ge (n := 41) (tgt := 64) X dX12_oneWord_38 (by decide) (by omega) (by omega) rfl (fun c9 => by exfalso; omega) (fun c9 => ?_)
  refine g_iload (n := 43) X 0 dX12_oneWord_41 rfl rfl ?_
  refine g_callSs (n := 46) (As := [gJ 0]) (rest := [gJ 0]) (cs1 := 0) (ss1 := 0) X (c_X12_word 0 (by omega) (by omega)) okX12_word kw_7_11 kw_7_12 ⟨rfl, rfl⟩ ⟨Nat.le_of_ble_eq_true rfl, Nat.le_of_ble_eq_true rfl⟩ rfl rfl (Nat.le_of_ble_eq_true rfl) ⟨Nat.le_of_ble_eq_true rfl, Nat.le_of_ble_eq_true rfl⟩ rfl rfl dX12_oneWord_43 rfl (fun z10 M11 P12 => ?_)
  obtain ⟨rfl, P12⟩ := P12
  obtain rfl : z10 = 16 := by omega
  refine G.str (i := 16) rfl ?_
  refine g_iload_n (n := 47) X 2 dX12_oneWord_46 rfl rfl rfl ?_
  refine g_callSt (n := 50) (As := [gJ 0]) (rest := [gJ 0]) (cs1 := 0) (ss1 := 0) X 16 rfl c_J_chr_16 okJ_chr kw_7_25 ⟨kw_4_6, kw_4_7⟩ ⟨rfl, rfl⟩ ⟨Nat.le_of_ble_eq_true rfl, Nat.le_of_ble_eq_true rfl⟩ rfl rfl (Nat.le_of_ble_eq_true rfl) ⟨Nat.le_of_ble_eq_true rfl, Nat.le_of_ble_eq_true rfl⟩ rfl rfl dX12_oneWord_47 rfl (fun z13 M14 P15 => ?_)
  obtain ⟨rfl, P15⟩ := P15
  refine g_aload_n (n := 51) X 4 dX12_oneWord_50 rfl rfl rfl ?_
  refine g_callVi (n := 54) (As := []) (rest := [gJ z13, gJ 0]) (cs1 := 0) (ss1 := 0) X (c_X12_here (by omega) f_190_1 f_190_12 f_190_11 f_191_668) okX12_here kw_7_26 ⟨kw_7_28, kw_0_58⟩ ⟨rfl, rfl⟩ ⟨Nat.le_of_ble_eq_true rfl, Nat.le_of_ble_eq_true rfl⟩ rfl (by omega) (by omega) lay_190 rfl rfl (Nat.le_of_ble_eq_true rfl) ⟨Nat.le_of_ble_eq_true rfl, Nat.le_of_ble_eq_true rfl⟩ rfl rfl dX12_oneWord_51 rfl (fun z16 M17 P18 => ?_)
  obtain ⟨rfl, rfl⟩ := P18
  refine g_icmp_ne (n := 57) (tgt := 64) X dX12_oneWord_54 (by decide) (by omega) (by omega) rfl (fun c19 => ?_) (fun c19 => by exfalso; omega)
  refine g_iconst (n := 65) X dX12_oneWord_64 rfl ?_
  refine g_iorE (n := 66) (z := 0) X dX12_oneWord_65 (by decide +kernel) rfl ?_
  refine g_istore_n (n := 67) (L' := [(3, gJ 0), (4, gJ 0), (2, gJ 0), (1, gJ 1023), (0, gA n0 190)]) X dX12_oneWord_66 rfl (by decide) rfl rfl ?_
  refine g_iinc (n := 70) (w := 1) (L' := [(4, gJ 1), (3, gJ 0), (2, gJ 0), (1, gJ 1023), (0, gA n0 190)]) X 1 dX12_oneWord_67 rfl rfl (by decide) rfl rfl ?_
  refine g_goto (tgt := 11) X dX12_oneWord_70 (by decide) ?_
  refine g_iload (n := 13) X 0 dX12_oneWord_11 rfl rfl ?_
  refine g_bipush (n := 15) X dX12_oneWord_13 (by decide +kernel) rfl ?_
  refine g_icmp_ge (n := 18) (tgt := 73) X dX12_oneWord_15 (by decide) (by omega) (by omega) rfl (fun c20 => by exfalso; omega) (fun c20 => ?_)
  refine g_iload_n (n := 19) X 1 dX12_oneWord_18 rfl rfl rfl ?_
  refine g_iload_n (n := 20) X 3 dX12_oneWord_19 rfl rfl rfl ?_
  refine g_iload (n := 22) X 0 dX12_oneWord_20 rfl rfl ?_
  refine g_ishrE (n := 23) (z := 511) X dX12_oneWord_22 (by decide +kernel) rfl ?_
  refine g_iconst (n := 24) X dX12_oneWord_23 rfl ?_
  refine g_iandE (n := 25) (z := 1) X dX12_oneWord_24 (by decide +kernel) rfl ?_
  refine g_iconst (n := 26) X dX12_oneWord_25 rfl ?_
  refine g_icmp_ne (n := 29) (tgt := 64) X dX12_oneWord_26 (by decide) (by omega) (by omega) rfl (fun c21 => by exfalso; omega) (fun c21 => ?_)
  refine g_iload_n (n := 30) X 2 dX12_oneWord_29 rfl rfl rfl ?_
  refine g_iload (n := 32) X 0 dX12_oneWord_30 rfl rfl ?_
  refine g_callSs (n := 35) (As := [gJ 1]) (rest := [gJ 0, gJ 0]) (cs1 := 0) (ss1 := 0) X (c_X12_word 1 (by omega) (by omega)) okX12_word kw_7_11 kw_7_12 ⟨rfl, rfl⟩ ⟨Nat.le_of_ble_eq_true rfl, Nat.le_of_ble_eq_true rfl⟩ rfl rfl (Nat.le_of_ble_eq_true rfl) ⟨Nat.le_of_ble_eq_true rfl, Nat.le_of_ble_eq_true rfl⟩ rfl rfl dX12_oneWord_32 rfl (fun z22 M23 P24 => ?_)
  obtain ⟨rfl, P24⟩ := P24
  obtain rfl : z22 = 17 := by omega
  refine G.str (i := 17) rfl ?_
  refine g_callSt (n := 38) (As := []) (rest := [gJ 0, gJ 0]) (cs1 := 0) (ss1 := 0) X 17 rfl c_J_len_17 okJ_len kw_7_24 ⟨kw_3_236, kw_3_237⟩ ⟨rfl, rfl⟩ ⟨Nat.le_of_ble_eq_true rfl, Nat.le_of_ble_eq_true rfl⟩ rfl rfl (Nat.le_of_ble_eq_true rfl) ⟨Nat.le_of_ble_eq_true rfl, Nat.le_of_ble_eq_true rfl⟩ rfl rfl dX12_oneWord_35 rfl (fun z25 M26 P27 => ?_)
  obtain ⟨rfl, rfl⟩ := P27
  refine g_icmp_ge (n := 41) (tgt := 64) X dX12_oneWord_38 (by decide) (by omega) (by omega) rfl (fun c28 => by exfalso; omega) (fun c28 => ?_)
  refine g_iload (n := 43) X 0 dX12_oneWord_41 rfl rfl ?_
  refine g_callSs (n := 46) (As := [gJ 1]) (rest := [gJ 0]) (cs1 := 0) (ss1 := 0) X (c_X12_word 1 (by omega) (by omega)) okX12_word kw_7_11 kw_7_12 ⟨rfl, rfl⟩ ⟨Nat.le_of_ble_eq_true rfl, Nat.le_of_ble_eq_true rfl⟩ rfl rfl (Nat.le_of_ble_eq_true rfl) ⟨Nat.le_of_ble_eq_true rfl, Nat.le_of_ble_eq_true rfl⟩ rfl rfl dX12_oneWord_43 rfl (fun z29 M30 P31 => ?_)
  obtain ⟨rfl, P31⟩ := P31
  obtain rfl : z29 = 17 := by omega
  refine G.str (i := 17) rfl ?_
  refine g_iload_n (n := 47) X 2 dX12_oneWord_46 rfl rfl rfl ?_
  refine g_callSt (n := 50) (As := [gJ 0]) (rest := [gJ 0]) (cs1 := 0) (ss1 := 0) X 17 rfl c_J_chr_17 okJ_chr kw_7_25 ⟨kw_4_6, kw_4_7⟩ ⟨rfl, rfl⟩ ⟨Nat.le_of_ble_eq_true rfl, Nat.le_of_ble_eq_true rfl⟩ rfl rfl (Nat.le_of_ble_eq_true rfl) ⟨Nat.le_of_ble_eq_true rfl, Nat.le_of_ble_eq_true rfl⟩ rfl rfl dX12_oneWord_47 rfl (fun z32 M33 P34 => ?_)
  obtain ⟨rfl, P34⟩ := P34
  refine g_aload_n (n := 51) X 4 dX12_oneWord_50 rfl rfl rfl ?_
  refine g_callVi (n := 54) (As := []) (rest := [gJ z32, gJ 0]) (cs1 := 0) (ss1 := 0) X (c_X12_here (by omega) f_190_1 f_190_12 f_190_11 f_191_668) okX12_here kw_7_26 ⟨kw_7_28, kw_0_58⟩ ⟨rfl, rfl⟩ ⟨Nat.le_of_ble_eq_true rfl, Nat.le_of_ble_eq_true rfl⟩ rfl (by omega) (by omega) lay_190 rfl rfl (Nat.le_of_ble_eq_true rfl) ⟨Nat.le_of_ble_eq_true rfl, Nat.le_of_ble_eq_true rfl⟩ rfl rfl dX12_oneWord_51 rfl (fun z35 M36 P37 => ?_)
  obtain ⟨rfl, rfl⟩ := P37
  refine g_icmp_ne (n := 57) (tgt := 64) X dX12_oneWord_54 (by decide) (by omega) (by omega) rfl (fun c38 => ?_) (fun c38 => by exfalso; omega)
  refine g_iconst (n := 65) X dX12_oneWord_64 rfl ?_
  refine g_iorE (n := 66) (z := 0) X dX12_oneWord_65 (by decide +kernel) rfl ?_
  refine g_istore_n (n := 67) (L' := [(3, gJ 0), (4, gJ 1), (2, gJ 0), (1, gJ 1023), (0, gA n0 190)]) X dX12_oneWord_66 rfl (by decide) rfl rfl ?_
  refine g_iinc (n := 70) (w := 2) (L' := [(4, gJ 2), (3, gJ 0), (2, gJ 0), (1, gJ 1023), (0, gA n0 190)]) X 1 dX12_oneWord_67 rfl rfl (by decide) rfl rfl ?_
  refine g_goto (tgt := 11) X dX12_oneWord_70 (by decide) ?_
  refine g_iload (n := 13) X 0 dX12_oneWord_11 rfl rfl ?_
  refine g_bipush (n := 15) X dX12_oneWord_13 (by decide +kernel) rfl ?_
  refine g_icmp_ge (n := 18) (tgt := 73) X dX12_oneWord_15 (by decide) (by omega) (by omega) rfl (fun c39 => by exfalso; omega) (fun c39 => ?_)
  refine g_iload_n (n := 19) X 1 dX12_oneWord_18 rfl rfl rfl ?_
  refine g_iload_n (n := 20) X 3 dX12_oneWord_19 rfl rfl rfl ?_
  refine g_iload (n := 22) X 0 dX12_oneWord_20 rfl rfl ?_
  refine g_ishrE (n := 23) (z := 255) X dX12_oneWord_22 (by decide +kernel) rfl ?_
  refine g_iconst (n := 24) X dX12_oneWord_23 rfl ?_
  refine g_iandE (n := 25) (z := 1) X dX12_oneWord_24 (by decide +kernel) rfl ?_
  refine g_iconst (n := 26) X dX12_oneWord_25 rfl ?_
  refine g_icmp_ne (n := 29) (tgt := 64) X dX12_oneWord_26 (by decide) (by omega) (by omega) rfl (fun c40 => by exfalso; omega) (fun c40 => ?_)
  refine g_iload_n (n := 30) X 2 dX12_oneWord_29 rfl rfl rfl ?_
  refine g_iload (n := 32) X 0 dX12_oneWord_30 rfl rfl ?_
  refine g_callSs (n := 35) (As := [gJ 2]) (rest := [gJ 0, gJ 0]) (cs1 := 0) (ss1 := 0) X (c_X12_word 2 (by omega) (by omega)) okX12_word kw_7_11 kw_7_12 ⟨rfl, rfl⟩ ⟨Nat.le_of_ble_eq_true rfl, Nat.le_of_ble_eq_true rfl⟩ rfl rfl (Nat.le_of_ble_eq_true rfl) ⟨Nat.le_of_ble_eq_true rfl, Nat.le_of_ble_eq_true rfl⟩ rfl rfl dX12_oneWord_32 rfl (fun z41 M42 P43 => ?_)
  obtain ⟨rfl, P43⟩ := P43
  obtain rfl : z41 = 18 := by omega
  refine G.str (i := 18) rfl ?_
  refine g_callSt (n := 38) (As := []) (rest := [gJ 0, gJ 0]) (cs1 := 0) (ss1 := 0) X 18 rfl c_J_len_18 okJ_len kw_7_24 ⟨kw_3_236, kw_3_237⟩ ⟨rfl, rfl⟩ ⟨Nat.le_of_ble_eq_true rfl, Nat.le_of_ble_eq_true rfl⟩ rfl rfl (Nat.le_of_ble_eq_true rfl) ⟨Nat.le_of_ble_eq_true rfl, Nat.le_of_ble_eq_true rfl⟩ rfl rfl dX12_oneWord_35 rfl (fun z44 M45 P46 => ?_)
  obtain ⟨rfl, rfl⟩ := P46
  refine g_icmp_ge (n := 41) (tgt := 64) X dX12_oneWord_38 (by decide) (by omega) (by omega) rfl (fun c47 => by exfalso; omega) (fun c47 => ?_)
  refine g_iload (n := 43) X 0 dX12_oneWord_41 rfl rfl ?_
  refine g_callSs (n := 46) (As := [gJ 2]) (rest := [gJ 0]) (cs1 := 0) (ss1 := 0) X (c_X12_word 2 (by omega) (by omega)) okX12_word kw_7_11 kw_7_12 ⟨rfl, rfl⟩ ⟨Nat.le_of_ble_eq_true rfl, Nat.le_of_ble_eq_true rfl⟩ rfl rfl (Nat.le_of_ble_eq_true rfl) ⟨Nat.le_of_ble_eq_true rfl, Nat.le_of_ble_eq_true rfl⟩ rfl rfl dX12_oneWord_43 rfl (fun z48 M49 P50 => ?_)
  obtain ⟨rfl, P50⟩ := P50
  obtain rfl : z48 = 18 := by omega
  refine G.str (i := 18) rfl ?_
  refine g_iload_n (n := 47) X 2 dX12_oneWord_46 rfl rfl rfl ?_
  refine g_callSt (n := 50) (As := [gJ 0]) (rest := [gJ 0]) (cs1 := 0) (ss1 := 0) X 18 rfl c_J_chr_18 okJ_chr kw_7_25 ⟨kw_4_6, kw_4_7⟩ ⟨rfl, rfl⟩ ⟨Nat.le_of_ble_eq_true rfl, Nat.le_of_ble_eq_true rfl⟩ rfl rfl (Nat.le_of_ble_eq_true rfl) ⟨Nat.le_of_ble_eq_true rfl, Nat.le_of_ble_eq_true rfl⟩ rfl rfl dX12_oneWord_47 rfl (fun z51 M52 P53 => ?_)
  obtain ⟨rfl, P53⟩ := P53
  refine g_aload_n (n := 51) X 4 dX12_oneWord_50 rfl rfl rfl ?_
  refine g_callVi (n := 54) (As := []) (rest := [gJ z51, gJ 0]) (cs1 := 0) (ss1 := 0) X (c_X12_here (by omega) f_190_1 f_190_12 f_190_11 f_191_668) okX12_here kw_7_26 ⟨kw_7_28, kw_0_58⟩ ⟨rfl, rfl⟩ ⟨Nat.le_of_ble_eq_true rfl, Nat.le_of_ble_eq_true rfl⟩ rfl (by omega) (by omega) lay_190 rfl rfl (Nat.le_of_ble_eq_true rfl) ⟨Nat.le_of_ble_eq_true rfl, Nat.le_of_ble_eq_true rfl⟩ rfl rfl dX12_oneWord_51 rfl (fun z54 M55 P56 => ?_)
  obtain ⟨rfl, rfl⟩ := P56
  refine g_icmp_ne (n := 57) (tgt := 64) X dX12_oneWord_54 (by decide) (by omega) (by omega) rfl (fun c57 => ?_) (fun c57 => by exfalso; omega)
  refine g_iconst (n := 65) X dX12_oneWord_64 rfl ?_
  refine g_iorE (n := 66) (z := 0) X dX12_oneWord_65 (by decide +kernel) rfl ?_
  refine g_istore_n (n := 67) (L' := [(3, gJ 0), (4, gJ 2), (2, gJ 0), (1, gJ 1023), (0, gA n0 190)]) X dX12_oneWord_66 rfl (by decide) rfl rfl ?_
  refine g_iinc (n := 70) (w := 3) (L' := [(4, gJ 3), (3, gJ 0), (2, gJ 0), (1, gJ 1023), (0, gA n0 190)]) X 1 dX12_oneWord_67 rfl rfl (by decide) rfl rfl ?_
  refine g_goto (tgt := 11) X dX12_oneWord_70 (by decide) ?_
  refine g_iload (n := 13) X 0 dX12_oneWord_11 rfl rfl ?_
  refine g_bipush (n := 15) X dX12_oneWord_13 (by decide +kernel) rfl ?_
  refine g_icmp_ge (n := 18) (tgt := 73) X dX12_oneWord_15 (by decide) (by omega) (by omega) rfl (fun c58 => by exfalso; omega) (fun c58 => ?_)
  refine g_iload_n (n := 19) X 1 dX12_oneWord_18 rfl rfl rfl ?_
  refine g_iload_n (n := 20) X 3 dX12_oneWord_19 rfl rfl rfl ?_
  refine g_iload (n := 22) X 0 dX12_oneWord_20 rfl rfl ?_
  refine g_ishrE (n := 23) (z := 127) X dX12_oneWord_22 (by decide +kernel) rfl ?_
  refine g_iconst (n := 24) X dX12_oneWord_23 rfl ?_
  refine g_iandE (n := 25) (z := 1) X dX12_oneWord_24 (by decide +kernel) rfl ?_
  refine g_iconst (n := 26) X dX12_oneWord_25 rfl ?_
  refine g_icmp_ne (n := 29) (tgt := 64) X dX12_oneWord_26 (by decide) (by omega) (by omega) rfl (fun c59 => by exfalso; omega) (fun c59 => ?_)
  refine g_iload_n (n := 30) X 2 dX12_oneWord_29 rfl rfl rfl ?_
  refine g_iload (n := 32) X 0 dX12_oneWord_30 rfl rfl ?_
  refine g_callSs (n := 35) (As := [gJ 3]) (rest := [gJ 0, gJ 0]) (cs1 := 0) (ss1 := 0) X (c_X12_word 3 (by omega) (by omega)) okX12_word kw_7_11 kw_7_12 ⟨rfl, rfl⟩ ⟨Nat.le_of_ble_eq_true rfl, Nat.le_of_ble_eq_true rfl⟩ rfl rfl (Nat.le_of_ble_eq_true rfl) ⟨Nat.le_of_ble_eq_true rfl, Nat.le_of_ble_eq_true rfl⟩ rfl rfl dX12_oneWord_32 rfl (fun z60 M61 P62 => ?_)
  obtain ⟨rfl, P62⟩ := P62
  obtain rfl : z60 = 19 := by omega
  refine G.str (i := 19) rfl ?_
  refine g_callSt (n := 38) (As := []) (rest := [gJ 0, gJ 0]) (cs1 := 0) (ss1 := 0) X 19 rfl c_J_len_19 okJ_len kw_7_24 ⟨kw_3_236, kw_3_237⟩ ⟨rfl, rfl⟩ ⟨Nat.le_of_ble_eq_true rfl, Nat.le_of_ble_eq_true rfl⟩ rfl rfl (Nat.le_of_ble_eq_true rfl) ⟨Nat.le_of_ble_eq_true rfl, Nat.le_of_ble_eq_true rfl⟩ rfl rfl dX12_oneWord_35 rfl (fun z63 M64 P65 => ?_)
  obtain ⟨rfl, rfl⟩ := P65
  refine g_icmp_ge (n := 41) (tgt := 64) X dX12_oneWord_38 (by decide) (by omega) (by omega) rfl (fun c66 => by exfalso; omega) (fun c66 => ?_)
  refine g_iload (n := 43) X 0 dX12_oneWord_41 rfl rfl ?_
  refine g_callSs (n := 46) (As := [gJ 3]) (rest := [gJ 0]) (cs1 := 0) (ss1 := 0) X (c_X12_word 3 (by omega) (by omega)) okX12_word kw_7_11 kw_7_12 ⟨rfl, rfl⟩ ⟨Nat.le_of_ble_eq_true rfl, Nat.le_of_ble_eq_true rfl⟩ rfl rfl (Nat.le_of_ble_eq_true rfl) ⟨Nat.le_of_ble_eq_true rfl, Nat.le_of_ble_eq_true rfl⟩ rfl rfl dX12_oneWord_43 rfl (fun z67 M68 P69 => ?_)
  obtain ⟨rfl, P69⟩ := P69
  obtain rfl : z67 = 19 := by omega
  refine G.str (i := 19) rfl ?_
  refine g_iload_n (n := 47) X 2 dX12_oneWord_46 rfl rfl rfl ?_
  refine g_callSt (n := 50) (As := [gJ 0]) (rest := [gJ 0]) (cs1 := 0) (ss1 := 0) X 19 rfl c_J_chr_19 okJ_chr kw_7_25 ⟨kw_4_6, kw_4_7⟩ ⟨rfl, rfl⟩ ⟨Nat.le_of_ble_eq_true rfl, Nat.le_of_ble_eq_true rfl⟩ rfl rfl (Nat.le_of_ble_eq_true rfl) ⟨Nat.le_of_ble_eq_true rfl, Nat.le_of_ble_eq_true rfl⟩ rfl rfl dX12_oneWord_47 rfl (fun z70 M71 P72 => ?_)
  obtain ⟨rfl, P72⟩ := P72
  refine g_aload_n (n := 51) X 4 dX12_oneWord_50 rfl rfl rfl ?_
  refine g_callVi (n := 54) (As := []) (rest := [gJ z70, gJ 0]) (cs1 := 0) (ss1 := 0) X (c_X12_here (by omega) f_190_1 f_190_12 f_190_11 f_191_668) okX12_here kw_7_26 ⟨kw_7_28, kw_0_58⟩ ⟨rfl, rfl⟩ ⟨Nat.le_of_ble_eq_true rfl, Nat.le_of_ble_eq_true rfl⟩ rfl (by omega) (by omega) lay_190 rfl rfl (Nat.le_of_ble_eq_true rfl) ⟨Nat.le_of_ble_eq_true rfl, Nat.le_of_ble_eq_true rfl⟩ rfl rfl dX12_oneWord_51 rfl (fun z73 M74 P75 => ?_)
  obtain ⟨rfl, rfl⟩ := P75
  refine g_icmp_ne (n := 57) (tgt := 64) X dX12_oneWord_54 (by decide) (by omega) (by omega) rfl (fun c76 => ?_) (fun c76 => by exfalso; omega)
  refine g_iconst (n := 65) X dX12_oneWord_64 rfl ?_
  refine g_iorE (n := 66) (z := 0) X dX12_oneWord_65 (by decide +kernel) rfl ?_
  refine g_istore_n (n := 67) (L' := [(3, gJ 0), (4, gJ 3), (2, gJ 0), (1, gJ 1023), (0, gA n0 190)]) X dX12_oneWord_66 rfl (by decide) rfl rfl ?_
  refine g_iinc (n := 70) (w := 4) (L' := [(4, gJ 4), (3, gJ 0), (2, gJ 0), (1, gJ 1023), (0, gA n0 190)]) X 1 dX12_oneWord_67 rfl rfl (by decide) rfl rfl ?_
  refine g_goto (tgt := 11) X dX12_oneWord_70 (by decide) ?_
  refine g_iload (n := 13) X 0 dX12_oneWord_11 rfl rfl ?_
  refine g_bipush (n := 15) X dX12_oneWord_13 (by decide +kernel) rfl ?_
  refine g_icmp_ge (n := 18) (tgt := 73) X dX12_oneWord_15 (by decide) (by omega) (by omega) rfl (fun c77 => by exfalso; omega) (fun c77 => ?_)
  refine g_iload_n (n := 19) X 1 dX12_oneWord_18 rfl rfl rfl ?_
  refine g_iload_n (n := 20) X 3 dX12_oneWord_19 rfl rfl rfl ?_
  refine g_iload (n := 22) X 0 dX12_oneWord_20 rfl rfl ?_
  refine g_ishrE (n := 23) (z := 63) X dX12_oneWord_22 (by decide +kernel) rfl ?_
  refine g_iconst (n := 24) X dX12_oneWord_23 rfl ?_
  refine g_iandE (n := 25) (z := 1) X dX12_oneWord_24 (by decide +kernel) rfl ?_
  refine g_iconst (n := 26) X dX12_oneWord_25 rfl ?_
  refine g_icmp_ne (n := 29) (tgt := 64) X dX12_oneWord_26 (by decide) (by omega) (by omega) rfl (fun c78 => by exfalso; omega) (fun c78 => ?_)
  refine g_iload_n (n := 30) X 2 dX12_oneWord_29 rfl rfl rfl ?_
  refine g_iload (n := 32) X 0 dX12_oneWord_30 rfl rfl ?_
  refine g_callSs (n := 35) (As := [gJ 4]) (rest := [gJ 0, gJ 0]) (cs1 := 0) (ss1 := 0) X (c_X12_word 4 (by omega) (by omega)) okX12_word kw_7_11 kw_7_12 ⟨rfl, rfl⟩ ⟨Nat.le_of_ble_eq_true rfl, Nat.le_of_ble_eq_true rfl⟩ rfl rfl (Nat.le_of_ble_eq_true rfl) ⟨Nat.le_of_ble_eq_true rfl, Nat.le_of_ble_eq_true rfl⟩ rfl rfl dX12_oneWord_32 rfl (fun z79 M80 P81 => ?_)
  obtain ⟨rfl, P81⟩ := P81
  obtain rfl : z79 = 20 := by omega
  refine G.str (i := 20) rfl ?_
  refine g_callSt (n := 38) (As := []) (rest := [gJ 0, gJ 0]) (cs1 := 0) (ss1 := 0) X 20 rfl c_J_len_20 okJ_len kw_7_24 ⟨kw_3_236, kw_3_237⟩ ⟨rfl, rfl⟩ ⟨Nat.le_of_ble_eq_true rfl, Nat.le_of_ble_eq_true rfl⟩ rfl rfl (Nat.le_of_ble_eq_true rfl) ⟨Nat.le_of_ble_eq_true rfl, Nat.le_of_ble_eq_true rfl⟩ rfl rfl dX12_oneWord_35 rfl (fun z82 M83 P84 => ?_)
  obtain ⟨rfl, rfl⟩ := P84
  refine g_icmp_ge (n := 41) (tgt := 64) X dX12_oneWord_38 (by decide) (by omega) (by omega) rfl (fun c85 => by exfalso; omega) (fun c85 => ?_)
  refine g_iload (n := 43) X 0 dX12_oneWord_41 rfl rfl ?_
  refine g_callSs (n := 46) (As := [gJ 4]) (rest := [gJ 0]) (cs1 := 0) (ss1 := 0) X (c_X12_word 4 (by omega) (by omega)) okX12_word kw_7_11 kw_7_12 ⟨rfl, rfl⟩ ⟨Nat.le_of_ble_eq_true rfl, Nat.le_of_ble_eq_true rfl⟩ rfl rfl (Nat.le_of_ble_eq_true rfl) ⟨Nat.le_of_ble_eq_true rfl, Nat.le_of_ble_eq_true rfl⟩ rfl rfl dX12_oneWord_43 rfl (fun z86 M87 P88 => ?_)
  obtain ⟨rfl, P88⟩ := P88
  obtain rfl : z86 = 20 := by omega
  refine G.str (i := 20) rfl ?_
  refine g_iload_n (n := 47) X 2 dX12_oneWord_46 rfl rfl rfl ?_
  refine g_callSt (n := 50) (As := [gJ 0]) (rest := [gJ 0]) (cs1 := 0) (ss1 := 0) X 20 rfl c_J_chr_20 okJ_chr kw_7_25 ⟨kw_4_6, kw_4_7⟩ ⟨rfl, rfl⟩ ⟨Nat.le_of_ble_eq_true rfl, Nat.le_of_ble_eq_true rfl⟩ rfl rfl (Nat.le_of_ble_eq_true rfl) ⟨Nat.le_of_ble_eq_true rfl, Nat.le_of_ble_eq_true rfl⟩ rfl rfl dX12_oneWord_47 rfl (fun z89 M90 P91 => ?_)
  obtain ⟨rfl, P91⟩ := P91
  refine g_aload_n (n := 51) X 4 dX12_oneWord_50 rfl rfl rfl ?_
  refine g_callVi (n := 54) (As := []) (rest := [gJ z89, gJ 0]) (cs1 := 0) (ss1 := 0) X (c_X12_here (by omega) f_190_1 f_190_12 f_190_11 f_191_668) okX12_here kw_7_26 ⟨kw_7_28, kw_0_58⟩ ⟨rfl, rfl⟩ ⟨Nat.le_of_ble_eq_true rfl, Nat.le_of_ble_eq_true rfl⟩ rfl (by omega) (by omega) lay_190 rfl rfl (Nat.le_of_ble_eq_true rfl) ⟨Nat.le_of_ble_eq_true rfl, Nat.le_of_ble_eq_true rfl⟩ rfl rfl dX12_oneWord_51 rfl (fun z92 M93 P94 => ?_)
  obtain ⟨rfl, rfl⟩ := P94
  refine g_icmp_ne (n := 57) (tgt := 64) X dX12_oneWord_54 (by decide) (by omega) (by omega) rfl (fun c95 => ?_) (fun c95 => by exfalso; omega)
  refine g_iconst (n := 65) X dX12_oneWord_64 rfl ?_
  refine g_iorE (n := 66) (z := 0) X dX12_oneWord_65 (by decide +kernel) rfl ?_
  refine g_istore_n (n := 67) (L' := [(3, gJ 0), (4, gJ 4), (2, gJ 0), (1, gJ 1023), (0, gA n0 190)]) X dX12_oneWord_66 rfl (by decide) rfl rfl ?_
  refine g_iinc (n := 70) (w := 5) (L' := [(4, gJ 5), (3, gJ 0), (2, gJ 0), (1, gJ 1023), (0, gA n0 190)]) X 1 dX12_oneWord_67 rfl rfl (by decide) rfl rfl ?_
  refine g_goto (tgt := 11) X dX12_oneWord_70 (by decide) ?_
  refine g_iload (n := 13) X 0 dX12_oneWord_11 rfl rfl ?_
  refine g_bipush (n := 15) X dX12_oneWord_13 (by decide +kernel) rfl ?_
  refine g_icmp_ge (n := 18) (tgt := 73) X dX12_oneWord_15 (by decide) (by omega) (by omega) rfl (fun c96 => by exfalso; omega) (fun c96 => ?_)
  refine g_iload_n (n := 19) X 1 dX12_oneWord_18 rfl rfl rfl ?_
  refine g_iload_n (n := 20) X 3 dX12_oneWord_19 rfl rfl rfl ?_
  refine g_iload (n := 22) X 0 dX12_oneWord_20 rfl rfl ?_
  refine g_ishrE (n := 23) (z := 31) X dX12_oneWord_22 (by decide +kernel) rfl ?_
  refine g_iconst (n := 24) X dX12_oneWord_23 rfl ?_
  refine g_iandE (n := 25) (z := 1) X dX12_oneWord_24 (by decide +kernel) rfl ?_
  refine g_iconst (n := 26) X dX12_oneWord_25 rfl ?_
  refine g_icmp_ne (n := 29) (tgt := 64) X dX12_oneWord_26 (by decide) (by omega) (by omega) rfl (fun c97 => by exfalso; omega) (fun c97 => ?_)
  refine g_iload_n (n := 30) X 2 dX12_oneWord_29 rfl rfl rfl ?_
  refine g_iload (n := 32) X 0 dX12_oneWord_30 rfl rfl ?_
  refine g_callSs (n := 35) (As := [gJ 5]) (rest := [gJ 0, gJ 0]) (cs1 := 0) (ss1 := 0) X (c_X12_word 5 (by omega) (by omega)) okX12_word kw_7_11 kw_7_12 ⟨rfl, rfl⟩ ⟨Nat.le_of_ble_eq_true rfl, Nat.le_of_ble_eq_true rfl⟩ rfl rfl (Nat.le_of_ble_eq_true rfl) ⟨Nat.le_of_ble_eq_true rfl, Nat.le_of_ble_eq_true rfl⟩ rfl rfl dX12_oneWord_32 rfl (fun z98 M99 P100 => ?_)
  obtain ⟨rfl, P100⟩ := P100
  obtain rfl : z98 = 21 := by omega
  refine G.str (i := 21) rfl ?_
  refine g_callSt (n := 38) (As := []) (rest := [gJ 0, gJ 0]) (cs1 := 0) (ss1 := 0) X 21 rfl c_J_len_21 okJ_len kw_7_24 ⟨kw_3_236, kw_3_237⟩ ⟨rfl, rfl⟩ ⟨Nat.le_of_ble_eq_true rfl, Nat.le_of_ble_eq_true rfl⟩ rfl rfl (Nat.le_of_ble_eq_true rfl) ⟨Nat.le_of_ble_eq_true rfl, Nat.le_of_ble_eq_true rfl⟩ rfl rfl dX12_oneWord_35 rfl (fun z101 M102 P103 => ?_)
  obtain ⟨rfl, rfl⟩ := P103
  refine g_icmp_ge (n := 41) (tgt := 64) X dX12_oneWord_38 (by decide) (by omega) (by omega) rfl (fun c104 => by exfalso; omega) (fun c104 => ?_)
  refine g_iload (n := 43) X 0 dX12_oneWord_41 rfl rfl ?_
  refine g_callSs (n := 46) (As := [gJ 5]) (rest := [gJ 0]) (cs1 := 0) (ss1 := 0) X (c_X12_word 5 (by omega) (by omega)) okX12_word kw_7_11 kw_7_12 ⟨rfl, rfl⟩ ⟨Nat.le_of_ble_eq_true rfl, Nat.le_of_ble_eq_true rfl⟩ rfl rfl (Nat.le_of_ble_eq_true rfl) ⟨Nat.le_of_ble_eq_true rfl, Nat.le_of_ble_eq_true rfl⟩ rfl rfl dX12_oneWord_43 rfl (fun z105 M106 P107 => ?_)
  obtain ⟨rfl, P107⟩ := P107
  obtain rfl : z105 = 21 := by omega
  refine G.str (i := 21) rfl ?_
  refine g_iload_n (n := 47) X 2 dX12_oneWord_46 rfl rfl rfl ?_
  refine g_callSt (n := 50) (As := [gJ 0]) (rest := [gJ 0]) (cs1 := 0) (ss1 := 0) X 21 rfl c_J_chr_21 okJ_chr kw_7_25 ⟨kw_4_6, kw_4_7⟩ ⟨rfl, rfl⟩ ⟨Nat.le_of_ble_eq_true rfl, Nat.le_of_ble_eq_true rfl⟩ rfl rfl (Nat.le_of_ble_eq_true rfl) ⟨Nat.le_of_ble_eq_true rfl, Nat.le_of_ble_eq_true rfl⟩ rfl rfl dX12_oneWord_47 rfl (fun z108 M109 P110 => ?_)
  obtain ⟨rfl, P110⟩ := P110
  refine g_aload_n (n := 51) X 4 dX12_oneWord_50 rfl rfl rfl ?_
  refine g_callVi (n := 54) (As := []) (rest := [gJ z108, gJ 0]) (cs1 := 0) (ss1 := 0) X (c_X12_here (by omega) f_190_1 f_190_12 f_190_11 f_191_668) okX12_here kw_7_26 ⟨kw_7_28, kw_0_58⟩ ⟨rfl, rfl⟩ ⟨Nat.le_of_ble_eq_true rfl, Nat.le_of_ble_eq_true rfl⟩ rfl (by omega) (by omega) lay_190 rfl rfl (Nat.le_of_ble_eq_true rfl) ⟨Nat.le_of_ble_eq_true rfl, Nat.le_of_ble_eq_true rfl⟩ rfl rfl dX12_oneWord_51 rfl (fun z111 M112 P113 => ?_)
  obtain ⟨rfl, rfl⟩ := P113
  refine g_icmp_ne (n := 57) (tgt := 64) X dX12_oneWord_54 (by decide) (by omega) (by omega) rfl (fun c114 => ?_) (fun c114 => by exfalso; omega)
  refine g_iconst (n := 65) X dX12_oneWord_64 rfl ?_
  refine g_iorE (n := 66) (z := 0) X dX12_oneWord_65 (by decide +kernel) rfl ?_
  refine g_istore_n (n := 67) (L' := [(3, gJ 0), (4, gJ 5), (2, gJ 0), (1, gJ 1023), (0, gA n0 190)]) X dX12_oneWord_66 rfl (by decide) rfl rfl ?_
  refine g_iinc (n := 70) (w := 6) (L' := [(4, gJ 6), (3, gJ 0), (2, gJ 0), (1, gJ 1023), (0, gA n0 190)]) X 1 dX12_oneWord_67 rfl rfl (by decide) rfl rfl ?_
  refine g_goto (tgt := 11) X dX12_oneWord_70 (by decide) ?_
  refine g_iload (n := 13) X 0 dX12_oneWord_11 rfl rfl ?_
  refine g_bipush (n := 15) X dX12_oneWord_13 (by decide +kernel) rfl ?_
  refine g_icmp_ge (n := 18) (tgt := 73) X dX12_oneWord_15 (by decide) (by omega) (by omega) rfl (fun c115 => by exfalso; omega) (fun c115 => ?_)
  refine g_iload_n (n := 19) X 1 dX12_oneWord_18 rfl rfl rfl ?_
  refine g_iload_n (n := 20) X 3 dX12_oneWord_19 rfl rfl rfl ?_
  refine g_iload (n := 22) X 0 dX12_oneWord_20 rfl rfl ?_
  refine g_ishrE (n := 23) (z := 15) X dX12_oneWord_22 (by decide +kernel) rfl ?_
  refine g_iconst (n := 24) X dX12_oneWord_23 rfl ?_
  refine g_iandE (n := 25) (z := 1) X dX12_oneWord_24 (by decide +kernel) rfl ?_
  refine g_iconst (n := 26) X dX12_oneWord_25 rfl ?_
  refine g_icmp_ne (n := 29) (tgt := 64) X dX12_oneWord_26 (by decide) (by omega) (by omega) rfl (fun c116 => by exfalso; omega) (fun c116 => ?_)
  refine g_iload_n (n := 30) X 2 dX12_oneWord_29 rfl rfl rfl ?_
  refine g_iload (n := 32) X 0 dX12_oneWord_30 rfl rfl ?_
  refine g_callSs (n := 35) (As := [gJ 6]) (rest := [gJ 0, gJ 0]) (cs1 := 0) (ss1 := 0) X (c_X12_word 6 (by omega) (by omega)) okX12_word kw_7_11 kw_7_12 ⟨rfl, rfl⟩ ⟨Nat.le_of_ble_eq_true rfl, Nat.le_of_ble_eq_true rfl⟩ rfl rfl (Nat.le_of_ble_eq_true rfl) ⟨Nat.le_of_ble_eq_true rfl, Nat.le_of_ble_eq_true rfl⟩ rfl rfl dX12_oneWord_32 rfl (fun z117 M118 P119 => ?_)
  obtain ⟨rfl, P119⟩ := P119
  obtain rfl : z117 = 22 := by omega
  refine G.str (i := 22) rfl ?_
  refine g_callSt (n := 38) (As := []) (rest := [gJ 0, gJ 0]) (cs1 := 0) (ss1 := 0) X 22 rfl c_J_len_22 okJ_len kw_7_24 ⟨kw_3_236, kw_3_237⟩ ⟨rfl, rfl⟩ ⟨Nat.le_of_ble_eq_true rfl, Nat.le_of_ble_eq_true rfl⟩ rfl rfl (Nat.le_of_ble_eq_true rfl) ⟨Nat.le_of_ble_eq_true rfl, Nat.le_of_ble_eq_true rfl⟩ rfl rfl dX12_oneWord_35 rfl (fun z120 M121 P122 => ?_)
  obtain ⟨rfl, rfl⟩ := P122
  refine g_icmp_ge (n := 41) (tgt := 64) X dX12_oneWord_38 (by decide) (by omega) (by omega) rfl (fun c123 => by exfalso; omega) (fun c123 => ?_)
  refine g_iload (n := 43) X 0 dX12_oneWord_41 rfl rfl ?_
  refine g_callSs (n := 46) (As := [gJ 6]) (rest := [gJ 0]) (cs1 := 0) (ss1 := 0) X (c_X12_word 6 (by omega) (by omega)) okX12_word kw_7_11 kw_7_12 ⟨rfl, rfl⟩ ⟨Nat.le_of_ble_eq_true rfl, Nat.le_of_ble_eq_true rfl⟩ rfl rfl (Nat.le_of_ble_eq_true rfl) ⟨Nat.le_of_ble_eq_true rfl, Nat.le_of_ble_eq_true rfl⟩ rfl rfl dX12_oneWord_43 rfl (fun z124 M125 P126 => ?_)
  obtain ⟨rfl, P126⟩ := P126
  obtain rfl : z124 = 22 := by omega
  refine G.str (i := 22) rfl ?_
  refine g_iload_n (n := 47) X 2 dX12_oneWord_46 rfl rfl rfl ?_
  refine g_callSt (n := 50) (As := [gJ 0]) (rest := [gJ 0]) (cs1 := 0) (ss1 := 0) X 22 rfl c_J_chr_22 okJ_chr kw_7_25 ⟨kw_4_6, kw_4_7⟩ ⟨rfl, rfl⟩ ⟨Nat.le_of_ble_eq_true rfl, Nat.le_of_ble_eq_true rfl⟩ rfl rfl (Nat.le_of_ble_eq_true rfl) ⟨Nat.le_of_ble_eq_true rfl, Nat.le_of_ble_eq_true rfl⟩ rfl rfl dX12_oneWord_47 rfl (fun z127 M128 P129 => ?_)
  obtain ⟨rfl, P129⟩ := P129
  refine g_aload_n (n := 51) X 4 dX12_oneWord_50 rfl rfl rfl ?_
  refine g_callVi (n := 54) (As := []) (rest := [gJ z127, gJ 0]) (cs1 := 0) (ss1 := 0) X (c_X12_here (by omega) f_190_1 f_190_12 f_190_11 f_191_668) okX12_here kw_7_26 ⟨kw_7_28, kw_0_58⟩ ⟨rfl, rfl⟩ ⟨Nat.le_of_ble_eq_true rfl, Nat.le_of_ble_eq_true rfl⟩ rfl (by omega) (by omega) lay_190 rfl rfl (Nat.le_of_ble_eq_true rfl) ⟨Nat.le_of_ble_eq_true rfl, Nat.le_of_ble_eq_true rfl⟩ rfl rfl dX12_oneWord_51 rfl (fun z130 M131 P132 => ?_)
  obtain ⟨rfl, rfl⟩ := P132
  refine g_icmp_ne (n := 57) (tgt := 64) X dX12_oneWord_54 (by decide) (by omega) (by omega) rfl (fun c133 => ?_) (fun c133 => by exfalso; omega)
  refine g_iconst (n := 65) X dX12_oneWord_64 rfl ?_
  refine g_iorE (n := 66) (z := 0) X dX12_oneWord_65 (by decide +kernel) rfl ?_
  refine g_istore_n (n := 67) (L' := [(3, gJ 0), (4, gJ 6), (2, gJ 0), (1, gJ 1023), (0, gA n0 190)]) X dX12_oneWord_66 rfl (by decide) rfl rfl ?_
  refine g_iinc (n := 70) (w := 7) (L' := [(4, gJ 7), (3, gJ 0), (2, gJ 0), (1, gJ 1023), (0, gA n0 190)]) X 1 dX12_oneWord_67 rfl rfl (by decide) rfl rfl ?_
  refine g_goto (tgt := 11) X dX12_oneWord_70 (by decide) ?_
  refine g_iload (n := 13) X 0 dX12_oneWord_11 rfl rfl ?_
  refine g_bipush (n := 15) X dX12_oneWord_13 (by decide +kernel) rfl ?_
  refine g_icmp_ge (n := 18) (tgt := 73) X dX12_oneWord_15 (by decide) (by omega) (by omega) rfl (fun c134 => by exfalso; omega) (fun c134 => ?_)
  refine g_iload_n (n := 19) X 1 dX12_oneWord_18 rfl rfl rfl ?_
  refine g_iload_n (n := 20) X 3 dX12_oneWord_19 rfl rfl rfl ?_
  refine g_iload (n := 22) X 0 dX12_oneWord_20 rfl rfl ?_
  refine g_ishrE (n := 23) (z := 7) X dX12_oneWord_22 (by decide +kernel) rfl ?_
  refine g_iconst (n := 24) X dX12_oneWord_23 rfl ?_
  refine g_iandE (n := 25) (z := 1) X dX12_oneWord_24 (by decide +kernel) rfl ?_
  refine g_iconst (n := 26) X dX12_oneWord_25 rfl ?_
  refine g_icmp_ne (n := 29) (tgt := 64) X dX12_oneWord_26 (by decide) (by omega) (by omega) rfl (fun c135 => by exfalso; omega) (fun c135 => ?_)
  refine g_iload_n (n := 30) X 2 dX12_oneWord_29 rfl rfl rfl ?_
  refine g_iload (n := 32) X 0 dX12_oneWord_30 rfl rfl ?_
  refine g_callSs (n := 35) (As := [gJ 7]) (rest := [gJ 0, gJ 0]) (cs1 := 0) (ss1 := 0) X (c_X12_word 7 (by omega) (by omega)) okX12_word kw_7_11 kw_7_12 ⟨rfl, rfl⟩ ⟨Nat.le_of_ble_eq_true rfl, Nat.le_of_ble_eq_true rfl⟩ rfl rfl (Nat.le_of_ble_eq_true rfl) ⟨Nat.le_of_ble_eq_true rfl, Nat.le_of_ble_eq_true rfl⟩ rfl rfl dX12_oneWord_32 rfl (fun z136 M137 P138 => ?_)
  obtain ⟨rfl, P138⟩ := P138
  obtain rfl : z136 = 23 := by omega
  refine G.str (i := 23) rfl ?_
  refine g_callSt (n := 38) (As := []) (rest := [gJ 0, gJ 0]) (cs1 := 0) (ss1 := 0) X 23 rfl c_J_len_23 okJ_len kw_7_24 ⟨kw_3_236, kw_3_237⟩ ⟨rfl, rfl⟩ ⟨Nat.le_of_ble_eq_true rfl, Nat.le_of_ble_eq_true rfl⟩ rfl rfl (Nat.le_of_ble_eq_true rfl) ⟨Nat.le_of_ble_eq_true rfl, Nat.le_of_ble_eq_true rfl⟩ rfl rfl dX12_oneWord_35 rfl (fun z139 M140 P141 => ?_)
  obtain ⟨rfl, rfl⟩ := P141
  refine g_icmp_ge (n := 41) (tgt := 64) X dX12_oneWord_38 (by decide) (by omega) (by omega) rfl (fun c142 => by exfalso; omega) (fun c142 => ?_)
  refine g_iload (n := 43) X 0 dX12_oneWord_41 rfl rfl ?_
  refine g_callSs (n := 46) (As := [gJ 7]) (rest := [gJ 0]) (cs1 := 0) (ss1 := 0) X (c_X12_word 7 (by omega) (by omega)) okX12_word kw_7_11 kw_7_12 ⟨rfl, rfl⟩ ⟨Nat.le_of_ble_eq_true rfl, Nat.le_of_ble_eq_true rfl⟩ rfl rfl (Nat.le_of_ble_eq_true rfl) ⟨Nat.le_of_ble_eq_true rfl, Nat.le_of_ble_eq_true rfl⟩ rfl rfl dX12_oneWord_43 rfl (fun z143 M144 P145 => ?_)
  obtain ⟨rfl, P145⟩ := P145
  obtain rfl : z143 = 23 := by omega
  refine G.str (i := 23) rfl ?_
  refine g_iload_n (n := 47) X 2 dX12_oneWord_46 rfl rfl rfl ?_
  refine g_callSt (n := 50) (As := [gJ 0]) (rest := [gJ 0]) (cs1 := 0) (ss1 := 0) X 23 rfl c_J_chr_23 okJ_chr kw_7_25 ⟨kw_4_6, kw_4_7⟩ ⟨rfl, rfl⟩ ⟨Nat.le_of_ble_eq_true rfl, Nat.le_of_ble_eq_true rfl⟩ rfl rfl (Nat.le_of_ble_eq_true rfl) ⟨Nat.le_of_ble_eq_true rfl, Nat.le_of_ble_eq_true rfl⟩ rfl rfl dX12_oneWord_47 rfl (fun z146 M147 P148 => ?_)
  obtain ⟨rfl, P148⟩ := P148
  refine g_aload_n (n := 51) X 4 dX12_oneWord_50 rfl rfl rfl ?_
  refine g_callVi (n := 54) (As := []) (rest := [gJ z146, gJ 0]) (cs1 := 0) (ss1 := 0) X (c_X12_here (by omega) f_190_1 f_190_12 f_190_11 f_191_668) okX12_here kw_7_26 ⟨kw_7_28, kw_0_58⟩ ⟨rfl, rfl⟩ ⟨Nat.le_of_ble_eq_true rfl, Nat.le_of_ble_eq_true rfl⟩ rfl (by omega) (by omega) lay_190 rfl rfl (Nat.le_of_ble_eq_true rfl) ⟨Nat.le_of_ble_eq_true rfl, Nat.le_of_ble_eq_true rfl⟩ rfl rfl dX12_oneWord_51 rfl (fun z149 M150 P151 => ?_)
  obtain ⟨rfl, rfl⟩ := P151
  refine g_icmp_ne (n := 57) (tgt := 64) X dX12_oneWord_54 (by decide) (by omega) (by omega) rfl (fun c152 => ?_) (fun c152 => by exfalso; omega)
  refine g_iconst (n := 65) X dX12_oneWord_64 rfl ?_
  refine g_iorE (n := 66) (z := 0) X dX12_oneWord_65 (by decide +kernel) rfl ?_
  refine g_istore_n (n := 67) (L' := [(3, gJ 0), (4, gJ 7), (2, gJ 0), (1, gJ 1023), (0, gA n0 190)]) X dX12_oneWord_66 rfl (by decide) rfl rfl ?_
  refine g_iinc (n := 70) (w := 8) (L' := [(4, gJ 8), (3, gJ 0), (2, gJ 0), (1, gJ 1023), (0, gA n0 190)]) X 1 dX12_oneWord_67 rfl rfl (by decide) rfl rfl ?_
  refine g_goto (tgt := 11) X dX12_oneWord_70 (by decide) ?_
  refine g_iload (n := 13) X 0 dX12_oneWord_11 rfl rfl ?_
  refine g_bipush (n := 15) X dX12_oneWord_13 (by decide +kernel) rfl ?_
  refine g_icmp_ge (n := 18) (tgt := 73) X dX12_oneWord_15 (by decide) (by omega) (by omega) rfl (fun c153 => by exfalso; omega) (fun c153 => ?_)
  refine g_iload_n (n := 19) X 1 dX12_oneWord_18 rfl rfl rfl ?_
  refine g_iload_n (n := 20) X 3 dX12_oneWord_19 rfl rfl rfl ?_
  refine g_iload (n := 22) X 0 dX12_oneWord_20 rfl rfl ?_
  refine g_ishrE (n := 23) (z := 3) X dX12_oneWord_22 (by decide +kernel) rfl ?_
  refine g_iconst (n := 24) X dX12_oneWord_23 rfl ?_
  refine g_iandE (n := 25) (z := 1) X dX12_oneWord_24 (by decide +kernel) rfl ?_
  refine g_iconst (n := 26) X dX12_oneWord_25 rfl ?_
  refine g_icmp_ne (n := 29) (tgt := 64) X dX12_oneWord_26 (by decide) (by omega) (by omega) rfl (fun c154 => by exfalso; omega) (fun c154 => ?_)
  refine g_iload_n (n := 30) X 2 dX12_oneWord_29 rfl rfl rfl ?_
  refine g_iload (n := 32) X 0 dX12_oneWord_30 rfl rfl ?_
  refine g_callSs (n := 35) (As := [gJ 8]) (rest := [gJ 0, gJ 0]) (cs1 := 0) (ss1 := 0) X (c_X12_word 8 (by omega) (by omega)) okX12_word kw_7_11 kw_7_12 ⟨rfl, rfl⟩ ⟨Nat.le_of_ble_eq_true rfl, Nat.le_of_ble_eq_true rfl⟩ rfl rfl (Nat.le_of_ble_eq_true rfl) ⟨Nat.le_of_ble_eq_true rfl, Nat.le_of_ble_eq_true rfl⟩ rfl rfl dX12_oneWord_32 rfl (fun z155 M156 P157 => ?_)
  obtain ⟨rfl, P157⟩ := P157
  obtain rfl : z155 = 24 := by omega
  refine G.str (i := 24) rfl ?_
  refine g_callSt (n := 38) (As := []) (rest := [gJ 0, gJ 0]) (cs1 := 0) (ss1 := 0) X 24 rfl c_J_len_24 okJ_len kw_7_24 ⟨kw_3_236, kw_3_237⟩ ⟨rfl, rfl⟩ ⟨Nat.le_of_ble_eq_true rfl, Nat.le_of_ble_eq_true rfl⟩ rfl rfl (Nat.le_of_ble_eq_true rfl) ⟨Nat.le_of_ble_eq_true rfl, Nat.le_of_ble_eq_true rfl⟩ rfl rfl dX12_oneWord_35 rfl (fun z158 M159 P160 => ?_)
  obtain ⟨rfl, rfl⟩ := P160
  refine g_icmp_ge (n := 41) (tgt := 64) X dX12_oneWord_38 (by decide) (by omega) (by omega) rfl (fun c161 => by exfalso; omega) (fun c161 => ?_)
  refine g_iload (n := 43) X 0 dX12_oneWord_41 rfl rfl ?_
  refine g_callSs (n := 46) (As := [gJ 8]) (rest := [gJ 0]) (cs1 := 0) (ss1 := 0) X (c_X12_word 8 (by omega) (by omega)) okX12_word kw_7_11 kw_7_12 ⟨rfl, rfl⟩ ⟨Nat.le_of_ble_eq_true rfl, Nat.le_of_ble_eq_true rfl⟩ rfl rfl (Nat.le_of_ble_eq_true rfl) ⟨Nat.le_of_ble_eq_true rfl, Nat.le_of_ble_eq_true rfl⟩ rfl rfl dX12_oneWord_43 rfl (fun z162 M163 P164 => ?_)
  obtain ⟨rfl, P164⟩ := P164
  obtain rfl : z162 = 24 := by omega
  refine G.str (i := 24) rfl ?_
  refine g_iload_n (n := 47) X 2 dX12_oneWord_46 rfl rfl rfl ?_
  refine g_callSt (n := 50) (As := [gJ 0]) (rest := [gJ 0]) (cs1 := 0) (ss1 := 0) X 24 rfl c_J_chr_24 okJ_chr kw_7_25 ⟨kw_4_6, kw_4_7⟩ ⟨rfl, rfl⟩ ⟨Nat.le_of_ble_eq_true rfl, Nat.le_of_ble_eq_true rfl⟩ rfl rfl (Nat.le_of_ble_eq_true rfl) ⟨Nat.le_of_ble_eq_true rfl, Nat.le_of_ble_eq_true rfl⟩ rfl rfl dX12_oneWord_47 rfl (fun z165 M166 P167 => ?_)
  obtain ⟨rfl, P167⟩ := P167
  refine g_aload_n (n := 51) X 4 dX12_oneWord_50 rfl rfl rfl ?_
  refine g_callVi (n := 54) (As := []) (rest := [gJ z165, gJ 0]) (cs1 := 0) (ss1 := 0) X (c_X12_here (by omega) f_190_1 f_190_12 f_190_11 f_191_668) okX12_here kw_7_26 ⟨kw_7_28, kw_0_58⟩ ⟨rfl, rfl⟩ ⟨Nat.le_of_ble_eq_true rfl, Nat.le_of_ble_eq_true rfl⟩ rfl (by omega) (by omega) lay_190 rfl rfl (Nat.le_of_ble_eq_true rfl) ⟨Nat.le_of_ble_eq_true rfl, Nat.le_of_ble_eq_true rfl⟩ rfl rfl dX12_oneWord_51 rfl (fun z168 M169 P170 => ?_)
  obtain ⟨rfl, rfl⟩ := P170
  refine g_icmp_ne (n := 57) (tgt := 64) X dX12_oneWord_54 (by decide) (by omega) (by omega) rfl (fun c171 => ?_) (fun c171 => by exfalso; omega)
  refine g_iconst (n := 65) X dX12_oneWord_64 rfl ?_
  refine g_iorE (n := 66) (z := 0) X dX12_oneWord_65 (by decide +kernel) rfl ?_
  refine g_istore_n (n := 67) (L' := [(3, gJ 0), (4, gJ 8), (2, gJ 0), (1, gJ 1023), (0, gA n0 190)]) X dX12_oneWord_66 rfl (by decide) rfl rfl ?_
  refine g_iinc (n := 70) (w := 9) (L' := [(4, gJ 9), (3, gJ 0), (2, gJ 0), (1, gJ 1023), (0, gA n0 190)]) X 1 dX12_oneWord_67 rfl rfl (by decide) rfl rfl ?_
  refine g_goto (tgt := 11) X dX12_oneWord_70 (by decide) ?_
  refine g_iload (n := 13) X 0 dX12_oneWord_11 rfl rfl ?_
  refine g_bipush (n := 15) X dX12_oneWord_13 (by decide +kernel) rfl ?_
  refine g_icmp_ge (n := 18) (tgt := 73) X dX12_oneWord_15 (by decide) (by omega) (by omega) rfl (fun c172 => by exfalso; omega) (fun c172 => ?_)
  refine g_iload_n (n := 19) X 1 dX12_oneWord_18 rfl rfl rfl ?_
  refine g_iload_n (n := 20) X 3 dX12_oneWord_19 rfl rfl rfl ?_
  refine g_iload (n := 22) X 0 dX12_oneWord_20 rfl rfl ?_
  refine g_ishrE (n := 23) (z := 1) X dX12_oneWord_22 (by decide +kernel) rfl ?_
  refine g_iconst (n := 24) X dX12_oneWord_23 rfl ?_
  refine g_iandE (n := 25) (z := 1) X dX12_oneWord_24 (by decide +kernel) rfl ?_
  refine g_iconst (n := 26) X dX12_oneWord_25 rfl ?_
  refine g_icmp_ne (n := 29) (tgt := 64) X dX12_oneWord_26 (by decide) (by omega) (by omega) rfl (fun c173 => by exfalso; omega) (fun c173 => ?_)
  refine g_iload_n (n := 30) X 2 dX12_oneWord_29 rfl rfl rfl ?_
  refine g_iload (n := 32) X 0 dX12_oneWord_30 rfl rfl ?_
  refine g_callSs (n := 35) (As := [gJ 9]) (rest := [gJ 0, gJ 0]) (cs1 := 0) (ss1 := 0) X (c_X12_word 9 (by omega) (by omega)) okX12_word kw_7_11 kw_7_12 ⟨rfl, rfl⟩ ⟨Nat.le_of_ble_eq_true rfl, Nat.le_of_ble_eq_true rfl⟩ rfl rfl (Nat.le_of_ble_eq_true rfl) ⟨Nat.le_of_ble_eq_true rfl, Nat.le_of_ble_eq_true rfl⟩ rfl rfl dX12_oneWord_32 rfl (fun z174 M175 P176 => ?_)
  obtain ⟨rfl, P176⟩ := P176
  obtain rfl : z174 = 25 := by omega
  refine G.str (i := 25) rfl ?_
  refine g_callSt (n := 38) (As := []) (rest := [gJ 0, gJ 0]) (cs1 := 0) (ss1 := 0) X 25 rfl c_J_len_25 okJ_len kw_7_24 ⟨kw_3_236, kw_3_237⟩ ⟨rfl, rfl⟩ ⟨Nat.le_of_ble_eq_true rfl, Nat.le_of_ble_eq_true rfl⟩ rfl rfl (Nat.le_of_ble_eq_true rfl) ⟨Nat.le_of_ble_eq_true rfl, Nat.le_of_ble_eq_true rfl⟩ rfl rfl dX12_oneWord_35 rfl (fun z177 M178 P179 => ?_)
  obtain ⟨rfl, rfl⟩ := P179
  refine g_icmp_ge (n := 41) (tgt := 64) X dX12_oneWord_38 (by decide) (by omega) (by omega) rfl (fun c180 => by exfalso; omega) (fun c180 => ?_)
  refine g_iload (n := 43) X 0 dX12_oneWord_41 rfl rfl ?_
  refine g_callSs (n := 46) (As := [gJ 9]) (rest := [gJ 0]) (cs1 := 0) (ss1 := 0) X (c_X12_word 9 (by omega) (by omega)) okX12_word kw_7_11 kw_7_12 ⟨rfl, rfl⟩ ⟨Nat.le_of_ble_eq_true rfl, Nat.le_of_ble_eq_true rfl⟩ rfl rfl (Nat.le_of_ble_eq_true rfl) ⟨Nat.le_of_ble_eq_true rfl, Nat.le_of_ble_eq_true rfl⟩ rfl rfl dX12_oneWord_43 rfl (fun z181 M182 P183 => ?_)
  obtain ⟨rfl, P183⟩ := P183
  obtain rfl : z181 = 25 := by omega
  refine G.str (i := 25) rfl ?_
  refine g_iload_n (n := 47) X 2 dX12_oneWord_46 rfl rfl rfl ?_
  refine g_callSt (n := 50) (As := [gJ 0]) (rest := [gJ 0]) (cs1 := 0) (ss1 := 0) X 25 rfl c_J_chr_25 okJ_chr kw_7_25 ⟨kw_4_6, kw_4_7⟩ ⟨rfl, rfl⟩ ⟨Nat.le_of_ble_eq_true rfl, Nat.le_of_ble_eq_true rfl⟩ rfl rfl (Nat.le_of_ble_eq_true rfl) ⟨Nat.le_of_ble_eq_true rfl, Nat.le_of_ble_eq_true rfl⟩ rfl rfl dX12_oneWord_47 rfl (fun z184 M185 P186 => ?_)
  obtain ⟨rfl, P186⟩ := P186
  refine g_aload_n (n := 51) X 4 dX12_oneWord_50 rfl rfl rfl ?_
  refine g_callVi (n := 54) (As := []) (rest := [gJ z184, gJ 0]) (cs1 := 0) (ss1 := 0) X (c_X12_here (by omega) f_190_1 f_190_12 f_190_11 f_191_668) okX12_here kw_7_26 ⟨kw_7_28, kw_0_58⟩ ⟨rfl, rfl⟩ ⟨Nat.le_of_ble_eq_true rfl, Nat.le_of_ble_eq_true rfl⟩ rfl (by omega) (by omega) lay_190 rfl rfl (Nat.le_of_ble_eq_true rfl) ⟨Nat.le_of_ble_eq_true rfl, Nat.le_of_ble_eq_true rfl⟩ rfl rfl dX12_oneWord_51 rfl (fun z187 M188 P189 => ?_)
  obtain ⟨rfl, rfl⟩ := P189
  refine g_icmp_ne (n := 57) (tgt := 64) X dX12_oneWord_54 (by decide) (by omega) (by omega) rfl (fun c190 => ?_) (fun c190 => by exfalso; omega)
  refine g_iconst (n := 65) X dX12_oneWord_64 rfl ?_
  refine g_iorE (n := 66) (z := 0) X dX12_oneWord_65 (by decide +kernel) rfl ?_
  refine g_istore_n (n := 67) (L' := [(3, gJ 0), (4, gJ 9), (2, gJ 0), (1, gJ 1023), (0, gA n0 190)]) X dX12_oneWord_66 rfl (by decide) rfl rfl ?_
  refine g_iinc (n := 70) (w := 10) (L' := [(4, gJ 10), (3, gJ 0), (2, gJ 0), (1, gJ 1023), (0, gA n0 190)]) X 1 dX12_oneWord_67 rfl rfl (by decide) rfl rfl ?_
  refine g_goto (tgt := 11) X dX12_oneWord_70 (by decide) ?_
  refine g_iload (n := 13) X 0 dX12_oneWord_11 rfl rfl ?_
  refine g_bipush (n := 15) X dX12_oneWord_13 (by decide +kernel) rfl ?_
  refine g_icmp_ge (n := 18) (tgt := 73) X dX12_oneWord_15 (by decide) (by omega) (by omega) rfl (fun c191 => ?_) (fun c191 => by exfalso; omega)
  refine g_iload_n (n := 74) X 1 dX12_oneWord_73 rfl rfl rfl ?_
  refine g_if_ne (n := 77) (tgt := 84) X dX12_oneWord_74 (by decide) (by omega) rfl (fun c192 => by exfalso; omega) (fun c192 => ?_)
  refine g_aload_n (n := 78) X 4 dX12_oneWord_77 rfl rfl rfl ?_
  refine g_iconst (n := 79) X dX12_oneWord_78 rfl ?_
  refine gp_12_13 (n := 82) X (by omega) (by omega) lay_190 kw_6_39 (by omega) dX12_oneWord_79 rfl ?_
  refine G.nm (fun M193 e194 => ?_)
  refine g_iconst (n := 83) X dX12_oneWord_82 rfl ?_
  exact g_ireturn X hr dX12_oneWord_83 (by exact ⟨by omega, ((congrFun (congrFun e194 _) _).trans ((gset_ne (by omega)).trans f_190_12)), ((congrFun (congrFun e194 _) _).trans (gset_eq _ _ _ _)), ((congrFun (congrFun e194 _) _).trans ((gset_ne (by omega)).trans f_190_1)), fun a h0 => ((congrFun e194 a).trans ((gset_off a (by omega)).trans rfl))⟩)
theorem dX12_reads_0 : decode cX12_reads 0 = .ok (.bipush 8, 2) := by decide +kernel
theorem dX12_reads_2 : decode cX12_reads 2 = .ok (.iload_n 1, 1) := by decide +kernel
theorem dX12_reads_3 : decode cX12_reads 3 = .ok (.imul, 1) := by decide +kernel
theorem dX12_reads_4 : decode cX12_reads 4 = .ok (.aload_n 0, 1) := by decide +kernel
theorem dX12_reads_5 : decode cX12_reads 5 = .ok (.getfield 7, 3) := by decide +kernel
theorem dX12_reads_8 : decode cX12_reads 8 = .ok (.sipush 24700, 3) := by decide +kernel
theorem dX12_reads_11 : decode cX12_reads 11 = .ok (.iload_n 1, 1) := by decide +kernel
theorem dX12_reads_12 : decode cX12_reads 12 = .ok (.iadd, 1) := by decide +kernel
theorem dX12_reads_13 : decode cX12_reads 13 = .ok (.iaload, 1) := by decide +kernel
theorem dX12_reads_14 : decode cX12_reads 14 = .ok (.iadd, 1) := by decide +kernel
theorem dX12_reads_15 : decode cX12_reads 15 = .ok (.istore_n 2, 1) := by decide +kernel
theorem dX12_reads_16 : decode cX12_reads 16 = .ok (.aload_n 0, 1) := by decide +kernel
theorem dX12_reads_17 : decode cX12_reads 17 = .ok (.invokevirtual 210, 3) := by decide +kernel
theorem kw_7_7 : (Jvm.Cond.methodLink "ParishUnionModel" (210 : Nat) ({ cls := "ParishUnionModel", name := "oneWord", desc := "()I" } : Jvm.MethodName)) ∈ gT := gT_of (tb_7 _ (List.mem_of_getElem? (i := 7) rfl)) rfl
theorem kw_7_10 : (Jvm.Cond.code ({ cls := "ParishUnionModel", name := "oneWord", desc := "()I" } : Jvm.MethodName) prog_14_method_38_code (5 : Nat) (Option.some Jvm.ClassFile.FieldType.int)) ∈ gT := gT_of (tb_7 _ (List.mem_of_getElem? (i := 10) rfl)) rfl
theorem okX12_oneWord : gQok yX12_oneWord cX12_oneWord 5 (Option.some Jvm.ClassFile.FieldType.int) 0 := ⟨kw_7_10, kw_1_13, by decide +kernel, by decide +kernel, by decide +kernel⟩
theorem kw_7_9 : (Jvm.Cond.instanceMethod ({ cls := "ParishUnionModel", name := "oneWord", desc := "()I" } : Jvm.MethodName)) ∈ gT := gT_of (tb_7 _ (List.mem_of_getElem? (i := 9) rfl)) rfl
theorem kw_0_57 : (Jvm.Cond.selects "ParishUnionModel" ({ cls := "ParishUnionModel", name := "oneWord", desc := "()I" } : Jvm.MethodName) ({ cls := "ParishUnionModel", name := "oneWord", desc := "()I" } : Jvm.MethodName)) ∈ gT := gT_of (tb_0 _ (List.mem_of_getElem? (i := 57) rfl)) rfl
theorem dX12_reads_20 : decode cX12_reads 20 = .ok (.istore_n 3, 1) := by decide +kernel
theorem dX12_reads_21 : decode cX12_reads 21 = .ok (.aload_n 0, 1) := by decide +kernel
theorem dX12_reads_22 : decode cX12_reads 22 = .ok (.getfield 7, 3) := by decide +kernel
theorem dX12_reads_25 : decode cX12_reads 25 = .ok (.sipush 24720, 3) := by decide +kernel
theorem dX12_reads_28 : decode cX12_reads 28 = .ok (.iload_n 2, 1) := by decide +kernel
theorem dX12_reads_29 : decode cX12_reads 29 = .ok (.iadd, 1) := by decide +kernel
theorem dX12_reads_30 : decode cX12_reads 30 = .ok (.iload_n 3, 1) := by decide +kernel
theorem dX12_reads_31 : decode cX12_reads 31 = .ok (.iastore, 1) := by decide +kernel
theorem dX12_reads_32 : decode cX12_reads 32 = .ok (.aload_n 0, 1) := by decide +kernel
theorem dX12_reads_33 : decode cX12_reads 33 = .ok (.getfield 7, 3) := by decide +kernel
theorem dX12_reads_36 : decode cX12_reads 36 = .ok (.sipush 24900, 3) := by decide +kernel
theorem dX12_reads_39 : decode cX12_reads 39 = .ok (.iload_n 2, 1) := by decide +kernel
theorem dX12_reads_40 : decode cX12_reads 40 = .ok (.iadd, 1) := by decide +kernel
theorem dX12_reads_41 : decode cX12_reads 41 = .ok (.iconst (-1), 1) := by decide +kernel
theorem dX12_reads_42 : decode cX12_reads 42 = .ok (.iastore, 1) := by decide +kernel
theorem dX12_reads_43 : decode cX12_reads 43 = .ok (.aload_n 0, 1) := by decide +kernel
theorem dX12_reads_44 : decode cX12_reads 44 = .ok (.getfield 135, 3) := by decide +kernel
theorem dX12_reads_47 : decode cX12_reads 47 = .ok (.ifCond .eq 4, 3) := by decide +kernel
theorem dX12_reads_50 : decode cX12_reads 50 = .ok (.return_, 1) := by decide +kernel
set_option maxRecDepth 100000 in
set_option maxHeartbeats 4000000 in
theorem c_X12_reads {l : Launch} {n0 : Nat} {D : va_G} {cA : Nat → ClassId} {M : gM}  {sz : Nat} (hsz : 206 ≤ sz) (f_190_1 : M 190 1 = 192) (f_190_12 : M 190 12 = 0) (f_190_11 : M 190 11 = 0) (f_191_668 : M 191 668 = 0) (f_191_24700 : M 191 24700 = 0) : Met l yX12_reads (gWsOf yX12_reads cX12_reads 5 (Option.none : Option Jvm.ClassFile.FieldType)) { frames := 139, cells := 0, slots := 0, locals := 5922 } (gPc n0 D cA [gA n0 190, gJ 0] M sz) (gQv n0 D cA sz (fun M1 => M1 190 12 = 0 ∧ M1 190 13 = 1 ∧ M1 190 1 = 192 ∧ ∀ a : Int, a ≠ 190 → a ≠ 191 → M1 a = M a)) 0 0 (fun q => n0 ≤ q) := by
  refine gMet_of [gA n0 190, gJ 0] (by decide) (Nat.le_of_ble_eq_true rfl) ?_
  intro p e s m args below meth cd X hr hm
  have X : gCx p s m args meth cd n0 D cA "ParishUnionModel" cX12_reads 5 := X
  show G p l e ({ frames := 139, cells := 0, slots := 0, locals := 5922 } : Room) s m args below meth cd n0 D cA 5 (MQ below (gQv n0 D cA sz (fun M1 => M1 190 12 = 0 ∧ M1 190 13 = 1 ∧ M1 190 1 = 192 ∧ ∀ a : Int, a ≠ 190 → a ≠ 191 → M1 a = M a)) args s 0 0 (fun q => n0 ≤ q)) 0 0 M sz 0 [(0, gA n0 190), (1, gJ 0)] []
  refine g_bipush (n := 2) X dX12_reads_0 (by decide +kernel) rfl ?_
  refine g_iload_n (n := 3) X 1 dX12_reads_2 rfl rfl rfl ?_
  refine g_imul (n := 4) (z := 0) X dX12_reads_3 rfl rfl ?_
  refine g_aload_n (n := 5) X 0 dX12_reads_4 rfl rfl rfl ?_
  refine gg_12_1 (n := 8) (z := 191) X (by omega) (by omega) lay_190 kw_6_27 dX12_reads_5 rfl f_190_1 (by omega) ?_
  refine g_sipush (n := 11) X dX12_reads_8 (by decide +kernel) rfl ?_
  refine g_iload_n (n := 12) X 1 dX12_reads_11 rfl rfl rfl ?_
  refine g_iadd (n := 13) (z := 24700) X dX12_reads_12 rfl rfl ?_
  refine g_iald (n := 14) X (by omega) (by omega) lay_191 (by omega) (by omega) (by omega) dX12_reads_13 rfl ?_
  rw [show M 191 24700 = 0 from f_191_24700]
  refine g_iadd (n := 15) (z := 0) X dX12_reads_14 rfl rfl ?_
  refine g_istore_n (n := 16) (L' := [(2, gJ 0), (0, gA n0 190), (1, gJ 0)]) X dX12_reads_15 rfl (by decide) rfl rfl ?_
  refine g_aload_n (n := 17) X 1 dX12_reads_16 rfl rfl rfl ?_
  refine g_callVi (n := 20) (As := []) (rest := []) (cs1 := 0) (ss1 := 0) X (c_X12_oneWord (by omega) f_190_1 f_190_12 f_190_11 f_191_668) okX12_oneWord kw_7_7 ⟨kw_7_9, kw_0_57⟩ ⟨rfl, rfl⟩ ⟨Nat.le_of_ble_eq_true rfl, Nat.le_of_ble_eq_true rfl⟩ rfl (by omega) (by omega) lay_190 rfl rfl (Nat.le_of_ble_eq_true rfl) ⟨Nat.le_of_ble_eq_true rfl, Nat.le_of_ble_eq_true rfl⟩ rfl rfl dX12_reads_17 rfl (fun z1 M2 P3 => ?_)
  obtain ⟨P3, g5, g6, g7, F4⟩ := P3
  obtain rfl : z1 = 0 := P3
  refine g_istore_n (n := 21) (L' := [(3, gJ 0), (2, gJ 0), (0, gA n0 190), (1, gJ 0)]) X dX12_reads_20 rfl (by decide) rfl rfl ?_
  refine g_aload_n (n := 22) X 2 dX12_reads_21 rfl rfl rfl ?_
  refine gg_12_1 (n := 25) (z := 191) X (by omega) (by omega) lay_190 kw_6_27 dX12_reads_22 rfl g7 (by omega) ?_
  refine g_sipush (n := 28) X dX12_reads_25 (by decide +kernel) rfl ?_
  refine g_iload_n (n := 29) X 1 dX12_reads_28 rfl rfl rfl ?_
  refine g_iadd (n := 30) (z := 24720) X dX12_reads_29 rfl rfl ?_
  refine g_iload_n (n := 31) X 0 dX12_reads_30 rfl rfl rfl ?_
  refine g_iast (n := 32) X (by omega) (by omega) lay_191 (by omega) (by omega) (by omega) dX12_reads_31 rfl ?_
  refine G.nm (fun M8 e9 => ?_)
  refine g_aload_n (n := 33) X 2 dX12_reads_32 rfl rfl rfl ?_
  refine gg_12_1 (n := 36) (z := 191) X (by omega) (by omega) lay_190 kw_6_27 dX12_reads_33 rfl ((congrFun (congrFun e9 _) _).trans ((gset_ne (by omega)).trans g7)) (by omega) ?_
  refine g_sipush (n := 39) X dX12_reads_36 (by decide +kernel) rfl ?_
  refine g_iload_n (n := 40) X 1 dX12_reads_39 rfl rfl rfl ?_
  refine g_iadd (n := 41) (z := 24900) X dX12_reads_40 rfl rfl ?_
  refine g_iconst (n := 42) X dX12_reads_41 rfl ?_
  refine g_iast (n := 43) X (by omega) (by omega) lay_191 (by omega) (by omega) (by omega) dX12_reads_42 rfl ?_
  refine G.nm (fun M10 e11 => ?_)
  refine g_aload_n (n := 44) X 2 dX12_reads_43 rfl rfl rfl ?_
  refine gg_12_13 (n := 47) (z := 1) X (by omega) (by omega) lay_190 kw_6_39 dX12_reads_44 rfl ((congrFun (congrFun e11 _) _).trans ((gset_ne (by omega)).trans ((congrFun (congrFun e9 _) _).trans ((gset_ne (by omega)).trans g6)))) ?_
  refine g_if_eq (n := 50) (tgt := 51) X dX12_reads_47 (by decide) (by omega) rfl (fun c12 => by exfalso; omega) (fun c12 => ?_)
  exact g_return X hr dX12_reads_50 (by exact ⟨((congrFun (congrFun e11 _) _).trans ((gset_ne (by omega)).trans ((congrFun (congrFun e9 _) _).trans ((gset_ne (by omega)).trans g5)))), ((congrFun (congrFun e11 _) _).trans ((gset_ne (by omega)).trans ((congrFun (congrFun e9 _) _).trans ((gset_ne (by omega)).trans g6)))), ((congrFun (congrFun e11 _) _).trans ((gset_ne (by omega)).trans ((congrFun (congrFun e9 _) _).trans ((gset_ne (by omega)).trans g7)))), fun a h0 h1 => ((congrFun e11 a).trans ((gset_off a (by omega)).trans ((congrFun e9 a).trans ((gset_off a (by omega)).trans ((F4 a (by omega)).trans rfl)))))⟩)
theorem dX12_readsAct_0 : decode cX12_readsAct 0 = .ok (.aload_n 0, 1) := by decide +kernel
theorem dX12_readsAct_1 : decode cX12_readsAct 1 = .ok (.getfield 7, 3) := by decide +kernel
theorem dX12_readsAct_4 : decode cX12_readsAct 4 = .ok (.sipush 656, 3) := by decide +kernel
theorem dX12_readsAct_7 : decode cX12_readsAct 7 = .ok (.iload_n 1, 1) := by decide +kernel
theorem dX12_readsAct_8 : decode cX12_readsAct 8 = .ok (.iadd, 1) := by decide +kernel
theorem dX12_readsAct_9 : decode cX12_readsAct 9 = .ok (.iload_n 2, 1) := by decide +kernel
theorem dX12_readsAct_10 : decode cX12_readsAct 10 = .ok (.iastore, 1) := by decide +kernel
theorem dX12_readsAct_11 : decode cX12_readsAct 11 = .ok (.aload_n 0, 1) := by decide +kernel
theorem dX12_readsAct_12 : decode cX12_readsAct 12 = .ok (.getfield 7, 3) := by decide +kernel
theorem dX12_readsAct_15 : decode cX12_readsAct 15 = .ok (.sipush 668, 3) := by decide +kernel
theorem dX12_readsAct_18 : decode cX12_readsAct 18 = .ok (.iload_n 1, 1) := by decide +kernel
theorem dX12_readsAct_19 : decode cX12_readsAct 19 = .ok (.iadd, 1) := by decide +kernel
theorem dX12_readsAct_20 : decode cX12_readsAct 20 = .ok (.aload_n 0, 1) := by decide +kernel
theorem dX12_readsAct_21 : decode cX12_readsAct 21 = .ok (.getfield 7, 3) := by decide +kernel
theorem dX12_readsAct_24 : decode cX12_readsAct 24 = .ok (.bipush 10, 2) := by decide +kernel
theorem dX12_readsAct_26 : decode cX12_readsAct 26 = .ok (.iaload, 1) := by decide +kernel
theorem dX12_readsAct_27 : decode cX12_readsAct 27 = .ok (.iastore, 1) := by decide +kernel
theorem dX12_readsAct_28 : decode cX12_readsAct 28 = .ok (.iconst 0, 1) := by decide +kernel
theorem dX12_readsAct_29 : decode cX12_readsAct 29 = .ok (.istore_n 3, 1) := by decide +kernel
theorem dX12_readsAct_30 : decode cX12_readsAct 30 = .ok (.iload_n 3, 1) := by decide +kernel
theorem dX12_readsAct_31 : decode cX12_readsAct 31 = .ok (.aload_n 0, 1) := by decide +kernel
theorem dX12_readsAct_32 : decode cX12_readsAct 32 = .ok (.getfield 7, 3) := by decide +kernel
theorem dX12_readsAct_35 : decode cX12_readsAct 35 = .ok (.bipush 10, 2) := by decide +kernel
theorem dX12_readsAct_37 : decode cX12_readsAct 37 = .ok (.iaload, 1) := by decide +kernel
theorem dX12_readsAct_38 : decode cX12_readsAct 38 = .ok (.if_icmp .ge 35, 3) := by decide +kernel
theorem dX12_readsAct_73 : decode cX12_readsAct 73 = .ok (.aload_n 0, 1) := by decide +kernel
theorem dX12_readsAct_74 : decode cX12_readsAct 74 = .ok (.getfield 7, 3) := by decide +kernel
theorem dX12_readsAct_77 : decode cX12_readsAct 77 = .ok (.bipush 10, 2) := by decide +kernel
theorem dX12_readsAct_79 : decode cX12_readsAct 79 = .ok (.iconst 0, 1) := by decide +kernel
theorem dX12_readsAct_80 : decode cX12_readsAct 80 = .ok (.iastore, 1) := by decide +kernel
theorem dX12_readsAct_81 : decode cX12_readsAct 81 = .ok (.aload_n 0, 1) := by decide +kernel
theorem dX12_readsAct_82 : decode cX12_readsAct 82 = .ok (.getfield 7, 3) := by decide +kernel
theorem dX12_readsAct_85 : decode cX12_readsAct 85 = .ok (.sipush 24700, 3) := by decide +kernel
theorem dX12_readsAct_88 : decode cX12_readsAct 88 = .ok (.iload_n 1, 1) := by decide +kernel
theorem dX12_readsAct_89 : decode cX12_readsAct 89 = .ok (.iadd, 1) := by decide +kernel
theorem dX12_readsAct_90 : decode cX12_readsAct 90 = .ok (.iconst 0, 1) := by decide +kernel
theorem dX12_readsAct_91 : decode cX12_readsAct 91 = .ok (.iastore, 1) := by decide +kernel
theorem dX12_readsAct_92 : decode cX12_readsAct 92 = .ok (.aload_n 0, 1) := by decide +kernel
theorem dX12_readsAct_93 : decode cX12_readsAct 93 = .ok (.iload_n 1, 1) := by decide +kernel
theorem dX12_readsAct_94 : decode cX12_readsAct 94 = .ok (.putfield 132, 3) := by decide +kernel
theorem dX12_readsAct_97 : decode cX12_readsAct 97 = .ok (.aload_n 0, 1) := by decide +kernel
theorem dX12_readsAct_98 : decode cX12_readsAct 98 = .ok (.iconst 0, 1) := by decide +kernel
theorem dX12_readsAct_99 : decode cX12_readsAct 99 = .ok (.putfield 129, 3) := by decide +kernel
theorem dX12_readsAct_102 : decode cX12_readsAct 102 = .ok (.aload_n 0, 1) := by decide +kernel
theorem dX12_readsAct_103 : decode cX12_readsAct 103 = .ok (.iconst 0, 1) := by decide +kernel
theorem dX12_readsAct_104 : decode cX12_readsAct 104 = .ok (.putfield 186, 3) := by decide +kernel
theorem kw_6_40 : (Jvm.Cond.fieldLink "ParishUnionModel" (186 : Nat) "ParishUnionModel" "open" "I") ∈ gT := gT_of (tb_6 _ (List.mem_of_getElem? (i := 40) rfl)) rfl
theorem dX12_readsAct_107 : decode cX12_readsAct 107 = .ok (.aload_n 0, 1) := by decide +kernel
theorem dX12_readsAct_108 : decode cX12_readsAct 108 = .ok (.iconst 0, 1) := by decide +kernel
theorem dX12_readsAct_109 : decode cX12_readsAct 109 = .ok (.putfield 135, 3) := by decide +kernel
theorem dX12_readsAct_112 : decode cX12_readsAct 112 = .ok (.aload_n 0, 1) := by decide +kernel
theorem dX12_readsAct_113 : decode cX12_readsAct 113 = .ok (.iconst (-1), 1) := by decide +kernel
theorem dX12_readsAct_114 : decode cX12_readsAct 114 = .ok (.putfield 180, 3) := by decide +kernel
theorem kw_6_41 : (Jvm.Cond.fieldLink "ParishUnionModel" (180 : Nat) "ParishUnionModel" "asked" "I") ∈ gT := gT_of (tb_6 _ (List.mem_of_getElem? (i := 41) rfl)) rfl
theorem dX12_readsAct_117 : decode cX12_readsAct 117 = .ok (.aload_n 0, 1) := by decide +kernel
theorem dX12_readsAct_118 : decode cX12_readsAct 118 = .ok (.iload_n 1, 1) := by decide +kernel
theorem dX12_readsAct_119 : decode cX12_readsAct 119 = .ok (.invokevirtual 217, 3) := by decide +kernel
theorem kw_7_3 : (Jvm.Cond.methodLink "ParishUnionModel" (217 : Nat) ({ cls := "ParishUnionModel", name := "reads", desc := "(I)V" } : Jvm.MethodName)) ∈ gT := gT_of (tb_7 _ (List.mem_of_getElem? (i := 3) rfl)) rfl
theorem kw_7_6 : (Jvm.Cond.code ({ cls := "ParishUnionModel", name := "reads", desc := "(I)V" } : Jvm.MethodName) prog_14_method_47_code (5 : Nat) (Option.none : Option Jvm.ClassFile.FieldType)) ∈ gT := gT_of (tb_7 _ (List.mem_of_getElem? (i := 6) rfl)) rfl
theorem okX12_reads : gQok yX12_reads cX12_reads 5 (Option.none : Option Jvm.ClassFile.FieldType) 1 := ⟨kw_7_6, kw_1_13, by decide +kernel, by decide +kernel, by decide +kernel⟩
theorem kw_7_5 : (Jvm.Cond.instanceMethod ({ cls := "ParishUnionModel", name := "reads", desc := "(I)V" } : Jvm.MethodName)) ∈ gT := gT_of (tb_7 _ (List.mem_of_getElem? (i := 5) rfl)) rfl
theorem kw_0_56 : (Jvm.Cond.selects "ParishUnionModel" ({ cls := "ParishUnionModel", name := "reads", desc := "(I)V" } : Jvm.MethodName) ({ cls := "ParishUnionModel", name := "reads", desc := "(I)V" } : Jvm.MethodName)) ∈ gT := gT_of (tb_0 _ (List.mem_of_getElem? (i := 56) rfl)) rfl
theorem dX12_readsAct_122 : decode cX12_readsAct 122 = .ok (.aload_n 0, 1) := by decide +kernel
theorem dX12_readsAct_123 : decode cX12_readsAct 123 = .ok (.getfield 135, 3) := by decide +kernel
theorem dX12_readsAct_126 : decode cX12_readsAct 126 = .ok (.ifCond .ne 45, 3) := by decide +kernel
theorem dX12_readsAct_171 : decode cX12_readsAct 171 = .ok (.aload_n 0, 1) := by decide +kernel
theorem dX12_readsAct_172 : decode cX12_readsAct 172 = .ok (.aload_n 0, 1) := by decide +kernel
theorem dX12_readsAct_173 : decode cX12_readsAct 173 = .ok (.getfield 135, 3) := by decide +kernel
theorem dX12_readsAct_176 : decode cX12_readsAct 176 = .ok (.ifCond .ne 20, 3) := by decide +kernel
theorem dX12_readsAct_196 : decode cX12_readsAct 196 = .ok (.iconst 1, 1) := by decide +kernel
theorem dX12_readsAct_197 : decode cX12_readsAct 197 = .ok (.goto 4, 3) := by decide +kernel
theorem dX12_readsAct_201 : decode cX12_readsAct 201 = .ok (.putfield 135, 3) := by decide +kernel
theorem dX12_readsAct_204 : decode cX12_readsAct 204 = .ok (.aload_n 0, 1) := by decide +kernel
theorem dX12_readsAct_205 : decode cX12_readsAct 205 = .ok (.getfield 135, 3) := by decide +kernel
theorem dX12_readsAct_208 : decode cX12_readsAct 208 = .ok (.ifCond .ne 7, 3) := by decide +kernel
theorem dX12_readsAct_215 : decode cX12_readsAct 215 = .ok (.iconst 0, 1) := by decide +kernel
theorem dX12_readsAct_216 : decode cX12_readsAct 216 = .ok (.ireturn, 1) := by decide +kernel
set_option maxRecDepth 100000 in
set_option maxHeartbeats 4000000 in
theorem c_X12_readsAct {l : Launch} {n0 : Nat} {D : va_G} {cA : Nat → ClassId} {M : gM} (b : Int) (r_b : -2147483648 ≤ b ∧ b ≤ 2147483647) {sz : Nat} (hsz : 206 ≤ sz) (f_190_1 : M 190 1 = 192) (f_191_10 : M 191 10 = 0) : Met l yX12_readsAct (gWsOf yX12_readsAct cX12_readsAct 4 (Option.some Jvm.ClassFile.FieldType.boolean)) { frames := 140, cells := 0, slots := 0, locals := 5946 } (gPc n0 D cA [gA n0 190, gJ 0, gJ b] M sz) (gQi n0 D cA sz (fun z M1 => (z = 0) ∧ M1 190 12 = 0 ∧ ∀ a : Int, a ≠ 190 → a ≠ 191 → M1 a = M a)) 0 0 (fun q => n0 ≤ q) := by
  refine gMet_of [gA n0 190, gJ 0, gJ b] (by decide) (Nat.le_of_ble_eq_true rfl) ?_
  intro p e s m args below meth cd X hr hm
  have X : gCx p s m args meth cd n0 D cA "ParishUnionModel" cX12_readsAct 4 := X
  show G p l e ({ frames := 140, cells := 0, slots := 0, locals := 5946 } : Room) s m args below meth cd n0 D cA 4 (MQ below (gQi n0 D cA sz (fun z M1 => (z = 0) ∧ M1 190 12 = 0 ∧ ∀ a : Int, a ≠ 190 → a ≠ 191 → M1 a = M a)) args s 0 0 (fun q => n0 ≤ q)) 0 0 M sz 0 [(0, gA n0 190), (1, gJ 0), (2, gJ b)] []
  refine g_aload_n (n := 1) X 0 dX12_readsAct_0 rfl rfl rfl ?_
  refine gg_12_1 (n := 4) (z := 191) X (by omega) (by omega) lay_190 kw_6_27 dX12_readsAct_1 rfl f_190_1 (by omega) ?_
  refine g_sipush (n := 7) X dX12_readsAct_4 (by decide +kernel) rfl ?_
  refine g_iload_n (n := 8) X 1 dX12_readsAct_7 rfl rfl rfl ?_
  refine g_iadd (n := 9) (z := 656) X dX12_readsAct_8 rfl rfl ?_
  refine g_iload_n (n := 10) X 2 dX12_readsAct_9 rfl rfl rfl ?_
  refine g_iast (n := 11) X (by omega) (by omega) lay_191 (by omega) (by omega) (by omega) dX12_readsAct_10 rfl ?_
  refine G.nm (fun M1 e2 => ?_)
  refine g_aload_n (n := 12) X 0 dX12_readsAct_11 rfl rfl rfl ?_
  refine gg_12_1 (n := 15) (z := 191) X (by omega) (by omega) lay_190 kw_6_27 dX12_readsAct_12 rfl ((congrFun (congrFun e2 _) _).trans ((gset_ne (by omega)).trans f_190_1)) (by omega) ?_
  refine g_sipush (n := 18) X dX12_readsAct_15 (by decide +kernel) rfl ?_
  refine g_iload_n (n := 19) X 1 dX12_readsAct_18 rfl rfl rfl ?_
  refine g_iadd (n := 20) (z := 668) X dX12_readsAct_19 rfl rfl ?_
  refine g_aload_n (n := 21) X 0 dX12_readsAct_20 rfl rfl rfl ?_
  refine gg_12_1 (n := 24) (z := 191) X (by omega) (by omega) lay_190 kw_6_27 dX12_readsAct_21 rfl ((congrFun (congrFun e2 _) _).trans ((gset_ne (by omega)).trans f_190_1)) (by omega) ?_
  refine g_bipush (n := 26) X dX12_readsAct_24 (by decide +kernel) rfl ?_
  refine g_iald (n := 27) X (by omega) (by omega) lay_191 (by omega) (by omega) (by omega) dX12_readsAct_26 rfl ?_
  rw [show M1 191 10 = 0 from ((congrFun (congrFun e2 _) _).trans ((gset_ne (by omega)).trans f_191_10))]
  refine g_iast (n := 28) X (by omega) (by omega) lay_191 (by omega) (by omega) (by omega) dX12_readsAct_27 rfl ?_
  refine G.nm (fun M3 e4 => ?_)
  refine g_iconst (n := 29) X dX12_readsAct_28 rfl ?_
  refine g_istore_n (n := 30) (L' := [(3, gJ 0), (0, gA n0 190), (1, gJ 0), (2, gJ b)]) X dX12_readsAct_29 rfl (by decide) rfl rfl ?_
  refine g_iload_n (n := 31) X 0 dX12_readsAct_30 rfl rfl rfl ?_
  refine g_aload_n (n := 32) X 1 dX12_readsAct_31 rfl rfl rfl ?_
  refine gg_12_1 (n := 35) (z := 191) X (by omega) (by omega) lay_190 kw_6_27 dX12_readsAct_32 rfl ((congrFun (congrFun e4 _) _).trans ((gset_ne (by omega)).trans ((congrFun (congrFun e2 _) _).trans ((gset_ne (by omega)).trans f_190_1)))) (by omega) ?_
  refine g_bipush (n := 37) X dX12_readsAct_35 (by decide +kernel) rfl ?_
  refine g_iald (n := 38) X (by omega) (by omega) lay_191 (by omega) (by omega) (by omega) dX12_readsAct_37 rfl ?_
  rw [show M3 191 10 = 0 from ((congrFun (congrFun e4 _) _).trans ((gset_ne (by omega)).trans ((congrFun (congrFun e2 _) _).trans ((gset_ne (by omega)).trans f_191_10))))]
  refine g_icmp_ge (n := 41) (tgt := 73) X dX12_readsAct_38 (by decide) (by omega) (by omega) rfl (fun c5 => ?_) (fun c5 => by exfalso; omega)
  refine g_aload_n (n := 74) X 1 dX12_readsAct_73 rfl rfl rfl ?_
  refine gg_12_1 (n := 77) (z := 191) X (by omega) (by omega) lay_190 kw_6_27 dX12_readsAct_74 rfl ((congrFun (congrFun e4 _) _).trans ((gset_ne (by omega)).trans ((congrFun (congrFun e2 _) _).trans ((gset_ne (by omega)).trans f_190_1)))) (by omega) ?_
  refine g_bipush (n := 79) X dX12_readsAct_77 (by decide +kernel) rfl ?_
  refine g_iconst (n := 80) X dX12_readsAct_79 rfl ?_
  refine g_iast (n := 81) X (by omega) (by omega) lay_191 (by omega) (by omega) (by omega) dX12_readsAct_80 rfl ?_
  refine G.nm (fun M6 e7 => ?_)
  refine g_aload_n (n := 82) X 1 dX12_readsAct_81 rfl rfl rfl ?_
  refine gg_12_1 (n := 85) (z := 191) X (by omega) (by omega) lay_190 kw_6_27 dX12_readsAct_82 rfl ((congrFun (congrFun e7 _) _).trans ((gset_ne (by omega)).trans ((congrFun (congrFun e4 _) _).trans ((gset_ne (by omega)).trans ((congrFun (congrFun e2 _) _).trans ((gset_ne (by omega)).trans f_190_1)))))) (by omega) ?_
  refine g_sipush (n := 88) X dX12_readsAct_85 (by decide +kernel) rfl ?_
  refine g_iload_n (n := 89) X 2 dX12_readsAct_88 rfl rfl rfl ?_
  refine g_iadd (n := 90) (z := 24700) X dX12_readsAct_89 rfl rfl ?_
  refine g_iconst (n := 91) X dX12_readsAct_90 rfl ?_
  refine g_iast (n := 92) X (by omega) (by omega) lay_191 (by omega) (by omega) (by omega) dX12_readsAct_91 rfl ?_
  refine G.nm (fun M8 e9 => ?_)
  refine g_aload_n (n := 93) X 1 dX12_readsAct_92 rfl rfl rfl ?_
  refine g_iload_n (n := 94) X 2 dX12_readsAct_93 rfl rfl rfl ?_
  refine gp_12_11 (n := 97) X (by omega) (by omega) lay_190 kw_6_37 dX12_readsAct_94 rfl ?_
  refine G.nm (fun M10 e11 => ?_)
  refine g_aload_n (n := 98) X 1 dX12_readsAct_97 rfl rfl rfl ?_
  refine g_iconst (n := 99) X dX12_readsAct_98 rfl ?_
  refine gp_12_12 (n := 102) X (by omega) (by omega) lay_190 kw_6_38 dX12_readsAct_99 rfl ?_
  refine G.nm (fun M12 e13 => ?_)
  refine g_aload_n (n := 103) X 1 dX12_readsAct_102 rfl rfl rfl ?_
  refine g_iconst (n := 104) X dX12_readsAct_103 rfl ?_
  refine gp_12_14 (n := 107) X (by omega) (by omega) lay_190 kw_6_40 dX12_readsAct_104 rfl ?_
  refine G.nm (fun M14 e15 => ?_)
  refine g_aload_n (n := 108) X 1 dX12_readsAct_107 rfl rfl rfl ?_
  refine g_iconst (n := 109) X dX12_readsAct_108 rfl ?_
  refine gp_12_13 (n := 112) X (by omega) (by omega) lay_190 kw_6_39 (by omega) dX12_readsAct_109 rfl ?_
  refine G.nm (fun M16 e17 => ?_)
  refine g_aload_n (n := 113) X 1 dX12_readsAct_112 rfl rfl rfl ?_
  refine g_iconst (n := 114) X dX12_readsAct_113 rfl ?_
  refine gp_12_15 (n := 117) X (by omega) (by omega) lay_190 kw_6_41 dX12_readsAct_114 rfl ?_
  refine G.nm (fun M18 e19 => ?_)
  refine g_aload_n (n := 118) X 1 dX12_readsAct_117 rfl rfl rfl ?_
  refine g_iload_n (n := 119) X 2 dX12_readsAct_118 rfl rfl rfl ?_
  refine g_callVv (n := 122) (As := [gJ 0]) (rest := []) (cs1 := 0) (ss1 := 0) X (c_X12_reads (by omega) ((congrFun (congrFun e19 _) _).trans ((gset_ne (by omega)).trans ((congrFun (congrFun e17 _) _).trans ((gset_ne (by omega)).trans ((congrFun (congrFun e15 _) _).trans ((gset_ne (by omega)).trans ((congrFun (congrFun e13 _) _).trans ((gset_ne (by omega)).trans ((congrFun (congrFun e11 _) _).trans ((gset_ne (by omega)).trans ((congrFun (congrFun e9 _) _).trans ((gset_ne (by omega)).trans ((congrFun (congrFun e7 _) _).trans ((gset_ne (by omega)).trans ((congrFun (congrFun e4 _) _).trans ((gset_ne (by omega)).trans ((congrFun (congrFun e2 _) _).trans ((gset_ne (by omega)).trans f_190_1)))))))))))))))))) ((congrFun (congrFun e19 _) _).trans ((gset_ne (by omega)).trans ((congrFun (congrFun e17 _) _).trans ((gset_ne (by omega)).trans ((congrFun (congrFun e15 _) _).trans ((gset_ne (by omega)).trans ((congrFun (congrFun e13 _) _).trans (gset_eq _ _ _ _)))))))) ((congrFun (congrFun e19 _) _).trans ((gset_ne (by omega)).trans ((congrFun (congrFun e17 _) _).trans ((gset_ne (by omega)).trans ((congrFun (congrFun e15 _) _).trans ((gset_ne (by omega)).trans ((congrFun (congrFun e13 _) _).trans ((gset_ne (by omega)).trans ((congrFun (congrFun e11 _) _).trans (gset_eq _ _ _ _)))))))))) ((congrFun (congrFun e19 _) _).trans ((gset_ne (by omega)).trans ((congrFun (congrFun e17 _) _).trans ((gset_ne (by omega)).trans ((congrFun (congrFun e15 _) _).trans ((gset_ne (by omega)).trans ((congrFun (congrFun e13 _) _).trans ((gset_ne (by omega)).trans ((congrFun (congrFun e11 _) _).trans ((gset_ne (by omega)).trans ((congrFun (congrFun e9 _) _).trans ((gset_ne (by omega)).trans ((congrFun (congrFun e7 _) _).trans ((gset_ne (by omega)).trans ((congrFun (congrFun e4 _) _).trans (gset_eq _ _ _ _)))))))))))))))) ((congrFun (congrFun e19 _) _).trans ((gset_ne (by omega)).trans ((congrFun (congrFun e17 _) _).trans ((gset_ne (by omega)).trans ((congrFun (congrFun e15 _) _).trans ((gset_ne (by omega)).trans ((congrFun (congrFun e13 _) _).trans ((gset_ne (by omega)).trans ((congrFun (congrFun e11 _) _).trans ((gset_ne (by omega)).trans ((congrFun (congrFun e9 _) _).trans (gset_eq _ _ _ _))))))))))))) okX12_reads kw_7_3 ⟨kw_7_5, kw_0_56⟩ ⟨rfl, rfl⟩ ⟨Nat.le_of_ble_eq_true rfl, Nat.le_of_ble_eq_true rfl⟩ rfl (by omega) (by omega) lay_190 rfl rfl (Nat.le_of_ble_eq_true rfl) ⟨Nat.le_of_ble_eq_true rfl, Nat.le_of_ble_eq_true rfl⟩ rfl rfl dX12_readsAct_119 rfl (fun M21 P22 => ?_)
  obtain ⟨g24, g25, g26, F23⟩ := P22
  refine g_aload_n (n := 123) X 1 dX12_readsAct_122 rfl rfl rfl ?_
  refine gg_12_13 (n := 126) (z := 1) X (by omega) (by omega) lay_190 kw_6_39 dX12_readsAct_123 rfl g25 ?_
  refine g_if_ne (n := 129) (tgt := 171) X dX12_readsAct_126 (by decide) (by omega) rfl (fun c27 => ?_) (fun c27 => by exfalso; omega)
  refine g_aload_n (n := 172) X 1 dX12_readsAct_171 rfl rfl rfl ?_
  refine g_aload_n (n := 173) X 1 dX12_readsAct_172 rfl rfl rfl ?_
  refine gg_12_13 (n := 176) (z := 1) X (by omega) (by omega) lay_190 kw_6_39 dX12_readsAct_173 rfl g25 ?_
  refine g_if_ne (n := 179) (tgt := 196) X dX12_readsAct_176 (by decide) (by omega) rfl (fun c28 => ?_) (fun c28 => by exfalso; omega)
  refine g_iconst (n := 197) X dX12_readsAct_196 rfl ?_
  refine g_goto (tgt := 201) X dX12_readsAct_197 (by decide) ?_
  refine gp_12_13 (n := 204) X (by omega) (by omega) lay_190 kw_6_39 (by omega) dX12_readsAct_201 rfl ?_
  refine G.nm (fun M29 e30 => ?_)
  refine g_aload_n (n := 205) X 1 dX12_readsAct_204 rfl rfl rfl ?_
  refine gg_12_13 (n := 208) (z := 1) X (by omega) (by omega) lay_190 kw_6_39 dX12_readsAct_205 rfl ((congrFun (congrFun e30 _) _).trans (gset_eq _ _ _ _)) ?_
  refine g_if_ne (n := 211) (tgt := 215) X dX12_readsAct_208 (by decide) (by omega) rfl (fun c31 => ?_) (fun c31 => by exfalso; omega)
  refine g_iconst (n := 216) X dX12_readsAct_215 rfl ?_
  exact g_zreturn X (by omega) hr dX12_readsAct_216 (by exact ⟨by omega, ((congrFun (congrFun e30 _) _).trans ((gset_ne (by omega)).trans g24)), fun a h0 h1 => ((congrFun e30 a).trans ((gset_off a (by omega)).trans ((F23 a (by omega) (by omega)).trans ((congrFun e19 a).trans ((gset_off a (by omega)).trans ((congrFun e17 a).trans ((gset_off a (by omega)).trans ((congrFun e15 a).trans ((gset_off a (by omega)).trans ((congrFun e13 a).trans ((gset_off a (by omega)).trans ((congrFun e11 a).trans ((gset_off a (by omega)).trans ((congrFun e9 a).trans ((gset_off a (by omega)).trans ((congrFun e7 a).trans ((gset_off a (by omega)).trans ((congrFun e4 a).trans ((gset_off a (by omega)).trans ((congrFun e2 a).trans ((gset_off a (by omega)).trans rfl)))))))))))))))))))))⟩)
theorem dX12_text_0 : decode cX12_text 0 = .ok (.iload_n 1, 1) := by decide +kernel
theorem dX12_text_1 : decode cX12_text 1 = .ok (.invokestatic 220, 3) := by decide +kernel
theorem dX12_text_4 : decode cX12_text 4 = .ok (.ifCond .ne 6, 3) := by decide +kernel
theorem dX12_text_10 : decode cX12_text 10 = .ok (.aload_n 0, 1) := by decide +kernel
theorem dX12_text_11 : decode cX12_text 11 = .ok (.getfield 7, 3) := by decide +kernel
theorem dX12_text_14 : decode cX12_text 14 = .ok (.iconst 4, 1) := by decide +kernel
theorem dX12_text_15 : decode cX12_text 15 = .ok (.iaload, 1) := by decide +kernel
theorem dX12_text_16 : decode cX12_text 16 = .ok (.bipush 10, 2) := by decide +kernel
theorem dX12_text_18 : decode cX12_text 18 = .ok (.if_icmp .ne 6, 3) := by decide +kernel
theorem dX12_text_24 : decode cX12_text 24 = .ok (.aload_n 0, 1) := by decide +kernel
theorem dX12_text_25 : decode cX12_text 25 = .ok (.aload_n 0, 1) := by decide +kernel
theorem dX12_text_26 : decode cX12_text 26 = .ok (.getfield 7, 3) := by decide +kernel
theorem dX12_text_29 : decode cX12_text 29 = .ok (.iconst 4, 1) := by decide +kernel
theorem dX12_text_30 : decode cX12_text 30 = .ok (.iaload, 1) := by decide +kernel
theorem dX12_text_31 : decode cX12_text 31 = .ok (.iload_n 1, 1) := by decide +kernel
theorem dX12_text_32 : decode cX12_text 32 = .ok (.invokevirtual 223, 3) := by decide +kernel
theorem kw_6_239 : (Jvm.Cond.methodLink "ParishUnionModel" (223 : Nat) ({ cls := "ParishUnionModel", name := "readsAct", desc := "(II)Z" } : Jvm.MethodName)) ∈ gT := gT_of (tb_6 _ (List.mem_of_getElem? (i := 239) rfl)) rfl
theorem kw_7_2 : (Jvm.Cond.code ({ cls := "ParishUnionModel", name := "readsAct", desc := "(II)Z" } : Jvm.MethodName) prog_14_method_48_code (4 : Nat) (Option.some Jvm.ClassFile.FieldType.boolean)) ∈ gT := gT_of (tb_7 _ (List.mem_of_getElem? (i := 2) rfl)) rfl
theorem okX12_readsAct : gQok yX12_readsAct cX12_readsAct 4 (Option.some Jvm.ClassFile.FieldType.boolean) 2 := ⟨kw_7_2, kw_1_13, by decide +kernel, by decide +kernel, by decide +kernel⟩
theorem kw_7_1 : (Jvm.Cond.instanceMethod ({ cls := "ParishUnionModel", name := "readsAct", desc := "(II)Z" } : Jvm.MethodName)) ∈ gT := gT_of (tb_7 _ (List.mem_of_getElem? (i := 1) rfl)) rfl
theorem kw_0_55 : (Jvm.Cond.selects "ParishUnionModel" ({ cls := "ParishUnionModel", name := "readsAct", desc := "(II)Z" } : Jvm.MethodName) ({ cls := "ParishUnionModel", name := "readsAct", desc := "(II)Z" } : Jvm.MethodName)) ∈ gT := gT_of (tb_0 _ (List.mem_of_getElem? (i := 55) rfl)) rfl
theorem dX12_text_35 : decode cX12_text 35 = .ok (.ifCond .ne 11, 3) := by decide +kernel
theorem dX12_text_38 : decode cX12_text 38 = .ok (.bipush (-10), 2) := by decide +kernel
theorem dX12_text_40 : decode cX12_text 40 = .ok (.aload_n 0, 1) := by decide +kernel
theorem dX12_text_41 : decode cX12_text 41 = .ok (.getfield 129, 3) := by decide +kernel
theorem dX12_text_44 : decode cX12_text 44 = .ok (.isub, 1) := by decide +kernel
theorem dX12_text_45 : decode cX12_text 45 = .ok (.ireturn, 1) := by decide +kernel
theorem dX12_text_7 : decode cX12_text 7 = .ok (.bipush (-2), 2) := by decide +kernel
theorem dX12_text_9 : decode cX12_text 9 = .ok (.ireturn, 1) := by decide +kernel
set_option maxRecDepth 100000 in
set_option maxHeartbeats 4000000 in
theorem c_X12_text {l : Launch} {n0 : Nat} {D : va_G} {cA : Nat → ClassId} {M : gM} (a : Int) (r_a : -2147483648 ≤ a ∧ a ≤ 2147483647) {sz : Nat} (hsz : 206 ≤ sz) (f_190_1 : M 190 1 = 192) (f_191_4 : M 191 4 = 0) (f_191_10 : M 191 10 = 0) : Met l yX12_text (gWsOf yX12_text cX12_text 2 (Option.some Jvm.ClassFile.FieldType.int)) { frames := 141, cells := 0, slots := 0, locals := 5969 } (gPc n0 D cA [gA n0 190, gJ a] M sz) (gQi n0 D cA sz (fun z M1 => ((¬(0 ≤ a ∧ a ≤ 300) → z = -2) ∧ (0 ≤ a → a ≤ 300 → z = -10)) ∧ ∀ a : Int, a ≠ 190 → a ≠ 191 → M1 a = M a)) 0 0 (fun q => n0 ≤ q) := by
  refine gMet_of [gA n0 190, gJ a] (by decide) (Nat.le_of_ble_eq_true rfl) ?_
  intro p e s m args below meth cd X hr hm
  have X : gCx p s m args meth cd n0 D cA "ParishUnionModel" cX12_text 2 := X
  show G p l e ({ frames := 141, cells := 0, slots := 0, locals := 5969 } : Room) s m args below meth cd n0 D cA 2 (MQ below (gQi n0 D cA sz (fun z M1 => ((¬(0 ≤ a ∧ a ≤ 300) → z = -2) ∧ (0 ≤ a → a ≤ 300 → z = -10)) ∧ ∀ a : Int, a ≠ 190 → a ≠ 191 → M1 a = M a)) args s 0 0 (fun q => n0 ≤ q)) 0 0 M sz 0 [(0, gA n0 190), (1, gJ a)] []
  refine g_iload_n (n := 1) X 1 dX12_text_0 rfl rfl rfl ?_
  refine g_callSi (n := 4) (As := [gJ a]) (rest := []) (cs1 := 0) (ss1 := 0) X (c_X12_isWeek a (by omega) (by omega)) okX12_isWeek kw_6_236 kw_6_237 ⟨rfl, rfl⟩ ⟨Nat.le_of_ble_eq_true rfl, Nat.le_of_ble_eq_true rfl⟩ rfl rfl (Nat.le_of_ble_eq_true rfl) ⟨Nat.le_of_ble_eq_true rfl, Nat.le_of_ble_eq_true rfl⟩ rfl rfl dX12_text_1 rfl (fun z1 M2 P3 => ?_)
  obtain ⟨rfl, P3⟩ := P3
  refine g_if_ne (n := 7) (tgt := 10) X dX12_text_4 (by decide) (by omega) rfl (fun c4 => ?_) (fun c4 => ?_)
  · refine g_aload_n (n := 11) X 0 dX12_text_10 rfl rfl rfl ?_
    refine gg_12_1 (n := 14) (z := 191) X (by omega) (by omega) lay_190 kw_6_27 dX12_text_11 rfl f_190_1 (by omega) ?_
    refine g_iconst (n := 15) X dX12_text_14 rfl ?_
    refine g_iald (n := 16) X (by omega) (by omega) lay_191 (by omega) (by omega) (by omega) dX12_text_15 rfl ?_
    rw [show M 191 4 = 0 from f_191_4]
    refine g_bipush (n := 18) X dX12_text_16 (by decide +kernel) rfl ?_
    refine g_icmp_ne (n := 21) (tgt := 24) X dX12_text_18 (by decide) (by omega) (by omega) rfl (fun c5 => ?_) (fun c5 => by exfalso; omega)
    refine g_aload_n (n := 25) X 0 dX12_text_24 rfl rfl rfl ?_
    refine g_aload_n (n := 26) X 0 dX12_text_25 rfl rfl rfl ?_
    refine gg_12_1 (n := 29) (z := 191) X (by omega) (by omega) lay_190 kw_6_27 dX12_text_26 rfl f_190_1 (by omega) ?_
    refine g_iconst (n := 30) X dX12_text_29 rfl ?_
    refine g_iald (n := 31) X (by omega) (by omega) lay_191 (by omega) (by omega) (by omega) dX12_text_30 rfl ?_
    rw [show M 191 4 = 0 from f_191_4]
    refine g_iload_n (n := 32) X 1 dX12_text_31 rfl rfl rfl ?_
    refine g_callVi (n := 35) (As := [gJ 0, gJ a]) (rest := []) (cs1 := 0) (ss1 := 0) X (c_X12_readsAct a (by omega) (by omega) f_190_1 f_191_10) okX12_readsAct kw_6_239 ⟨kw_7_1, kw_0_55⟩ ⟨rfl, rfl⟩ ⟨Nat.le_of_ble_eq_true rfl, Nat.le_of_ble_eq_true rfl⟩ rfl (by omega) (by omega) lay_190 rfl rfl (Nat.le_of_ble_eq_true rfl) ⟨Nat.le_of_ble_eq_true rfl, Nat.le_of_ble_eq_true rfl⟩ rfl rfl dX12_text_32 rfl (fun z6 M7 P8 => ?_)
    obtain ⟨P8, g10, F9⟩ := P8
    obtain rfl : z6 = 0 := P8
    refine g_if_ne (n := 38) (tgt := 46) X dX12_text_35 (by decide) (by omega) rfl (fun c11 => by exfalso; omega) (fun c11 => ?_)
    refine g_bipush (n := 40) X dX12_text_38 (by decide +kernel) rfl ?_
    refine g_aload_n (n := 41) X 0 dX12_text_40 rfl rfl rfl ?_
    refine gg_12_12 (n := 44) (z := 0) X (by omega) (by omega) lay_190 kw_6_38 dX12_text_41 rfl g10 ?_
    refine g_isub (n := 45) (z := (-10)) X dX12_text_44 rfl rfl ?_
    exact g_ireturn X hr dX12_text_45 (by exact ⟨by omega, fun a h0 h1 => ((F9 a (by omega) (by omega)).trans rfl)⟩)
  · refine g_bipush (n := 9) X dX12_text_7 (by decide +kernel) rfl ?_
    exact g_ireturn X hr dX12_text_9 (by exact ⟨by omega, fun a h0 h1 => rfl⟩)
