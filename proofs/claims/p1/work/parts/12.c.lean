theorem dX9_actInForce_0 : decode cX9_actInForce 0 = .ok (.iconst (-1), 1) := by decide +kernel
theorem dX9_actInForce_1 : decode cX9_actInForce 1 = .ok (.istore_n 3, 1) := by decide +kernel
theorem dX9_actInForce_2 : decode cX9_actInForce 2 = .ok (.iconst 0, 1) := by decide +kernel
theorem dX9_actInForce_3 : decode cX9_actInForce 3 = .ok (.istore 4, 2) := by decide +kernel
theorem dX9_actInForce_5 : decode cX9_actInForce 5 = .ok (.iload 4, 2) := by decide +kernel
theorem dX9_actInForce_7 : decode cX9_actInForce 7 = .ok (.aload_n 0, 1) := by decide +kernel
theorem dX9_actInForce_8 : decode cX9_actInForce 8 = .ok (.getfield 92, 3) := by decide +kernel
theorem kw_2_134 : (Jvm.Cond.fieldLink "ParishUnion$Union" (92 : Nat) "ParishUnion$Union" "actCount" "I") ∈ gT := gT_of (tb_2 _ (List.mem_of_getElem? (i := 134) rfl)) rfl
theorem dX9_actInForce_11 : decode cX9_actInForce 11 = .ok (.if_icmp .ge 81, 3) := by decide +kernel
theorem dX9_actInForce_92 : decode cX9_actInForce 92 = .ok (.iload_n 3, 1) := by decide +kernel
theorem dX9_actInForce_93 : decode cX9_actInForce 93 = .ok (.ireturn, 1) := by decide +kernel
set_option maxRecDepth 100000 in
set_option maxHeartbeats 4000000 in
theorem c_X9_actInForce {l : Launch} {n0 : Nat} {D : va_G} {cA : Nat → ClassId} {M : gM} (a b : Int) (r_a : -2147483648 ≤ a ∧ a ≤ 2147483647) (r_b : -2147483648 ≤ b ∧ b ≤ 2147483647) {sz : Nat} (hsz : 206 ≤ sz) (f_1_13 : M 1 13 = 0) : Met l yX9_actInForce (gWsOf yX9_actInForce cX9_actInForce 6 (Option.some Jvm.ClassFile.FieldType.int)) { frames := 0, cells := 0, slots := 0, locals := 0 } (gPc n0 D cA [gA n0 1, gJ a, gJ b] M sz) (gQi n0 D cA sz (fun z M1 => M = M1 ∧ (z = -1))) 0 0 (fun q => n0 ≤ q) := by
  refine gMet_of [gA n0 1, gJ a, gJ b] (by decide) (Nat.le_of_ble_eq_true rfl) ?_
  intro p e s m args below meth cd X hr hm
  have X : gCx p s m args meth cd n0 D cA "ParishUnion$Union" cX9_actInForce 6 := X
  show G p l e ({ frames := 0, cells := 0, slots := 0, locals := 0 } : Room) s m args below meth cd n0 D cA 6 (MQ below (gQi n0 D cA sz (fun z M1 => M = M1 ∧ (z = -1))) args s 0 0 (fun q => n0 ≤ q)) 0 0 M sz 0 [(0, gA n0 1), (1, gJ a), (2, gJ b)] []
  refine g_iconst (n := 1) X dX9_actInForce_0 rfl ?_
  refine g_istore_n (n := 2) (L' := [(3, gJ (-1)), (0, gA n0 1), (1, gJ a), (2, gJ b)]) X dX9_actInForce_1 rfl (by decide) rfl rfl ?_
  refine g_iconst (n := 3) X dX9_actInForce_2 rfl ?_
  refine g_istore (n := 5) (L' := [(4, gJ 0), (3, gJ (-1)), (0, gA n0 1), (1, gJ a), (2, gJ b)]) X dX9_actInForce_3 (by decide) rfl rfl ?_
  refine g_iload (n := 7) X 0 dX9_actInForce_5 rfl rfl ?_
  refine g_aload_n (n := 8) X 2 dX9_actInForce_7 rfl rfl rfl ?_
  refine gg_9_13 (n := 11) (z := 0) X (by omega) (by omega) lay_1 kw_2_134 dX9_actInForce_8 rfl f_1_13 ?_
  refine g_icmp_ge (n := 14) (tgt := 92) X dX9_actInForce_11 (by decide) (by omega) (by omega) rfl (fun c1 => ?_) (fun c1 => by exfalso; omega)
  refine g_iload_n (n := 93) X 1 dX9_actInForce_92 rfl rfl rfl ?_
  exact g_ireturn X hr dX9_actInForce_93 (by exact ⟨rfl, by omega⟩)
theorem dX9_law_0 : decode cX9_law 0 = .ok (.aload_n 0, 1) := by decide +kernel
theorem dX9_law_1 : decode cX9_law 1 = .ok (.iload_n 1, 1) := by decide +kernel
theorem dX9_law_2 : decode cX9_law 2 = .ok (.iload_n 2, 1) := by decide +kernel
theorem dX9_law_3 : decode cX9_law 3 = .ok (.invokevirtual 142, 3) := by decide +kernel
theorem kw_3_141 : (Jvm.Cond.methodLink "ParishUnion$Union" (142 : Nat) ({ cls := "ParishUnion$Union", name := "actInForce", desc := "(II)I" } : Jvm.MethodName)) ∈ gT := gT_of (tb_3 _ (List.mem_of_getElem? (i := 141) rfl)) rfl
theorem kw_3_144 : (Jvm.Cond.code ({ cls := "ParishUnion$Union", name := "actInForce", desc := "(II)I" } : Jvm.MethodName) prog_11_method_4_code (6 : Nat) (Option.some Jvm.ClassFile.FieldType.int)) ∈ gT := gT_of (tb_3 _ (List.mem_of_getElem? (i := 144) rfl)) rfl
theorem okX9_actInForce : gQok yX9_actInForce cX9_actInForce 6 (Option.some Jvm.ClassFile.FieldType.int) 2 := ⟨kw_3_144, kw_1_2, by decide +kernel, by decide +kernel, by decide +kernel⟩
theorem kw_3_142 : (Jvm.Cond.instanceMethod ({ cls := "ParishUnion$Union", name := "actInForce", desc := "(II)I" } : Jvm.MethodName)) ∈ gT := gT_of (tb_3 _ (List.mem_of_getElem? (i := 142) rfl)) rfl
theorem kw_3_143 : (Jvm.Cond.selects "ParishUnion$Union" ({ cls := "ParishUnion$Union", name := "actInForce", desc := "(II)I" } : Jvm.MethodName) ({ cls := "ParishUnion$Union", name := "actInForce", desc := "(II)I" } : Jvm.MethodName)) ∈ gT := gT_of (tb_3 _ (List.mem_of_getElem? (i := 143) rfl)) rfl
theorem dX9_law_6 : decode cX9_law 6 = .ok (.istore_n 3, 1) := by decide +kernel
theorem dX9_law_7 : decode cX9_law 7 = .ok (.iload_n 3, 1) := by decide +kernel
theorem dX9_law_8 : decode cX9_law 8 = .ok (.iconst (-1), 1) := by decide +kernel
theorem dX9_law_9 : decode cX9_law 9 = .ok (.if_icmp .ne 11, 3) := by decide +kernel
theorem dX9_law_12 : decode cX9_law 12 = .ok (.getstatic 146, 3) := by decide +kernel
theorem dX9_law_15 : decode cX9_law 15 = .ok (.iload_n 1, 1) := by decide +kernel
theorem dX9_law_16 : decode cX9_law 16 = .ok (.iaload, 1) := by decide +kernel
theorem dX9_law_17 : decode cX9_law 17 = .ok (.goto 14, 3) := by decide +kernel
theorem dX9_law_31 : decode cX9_law 31 = .ok (.ireturn, 1) := by decide +kernel
set_option maxRecDepth 100000 in
set_option maxHeartbeats 4000000 in
theorem c_X9_law {l : Launch} {n0 : Nat} {D : va_G} {cA : Nat → ClassId} {M : gM} (a b : Int) (r_a : -2147483648 ≤ a ∧ a ≤ 2147483647) (r_b : -2147483648 ≤ b ∧ b ≤ 2147483647) {sz : Nat} (hsz : 206 ≤ sz) (f_1_13 : M 1 13 = 0) (hab : 0 ≤ a ∧ a ≤ 9) : Met l yX9_law (gWsOf yX9_law cX9_law 4 (Option.some Jvm.ClassFile.FieldType.int)) { frames := 1, cells := 0, slots := 0, locals := 25 } (gPc n0 D cA [gA n0 1, gJ a, gJ b] M sz) (gQi n0 D cA sz (fun z M1 => M = M1 ∧ (0 ≤ z ∧ z ≤ 100 ∧ (a = 0 → z = 50) ∧ (a = 1 → z = 100) ∧ (a = 2 → z = 10) ∧ (a = 3 → z = 5) ∧ (a = 4 → z = 14) ∧ (a = 5 → z = 1) ∧ (a = 6 → z = 1) ∧ (a = 7 → z = 0) ∧ (a = 8 → z = 0) ∧ (a = 9 → z = 0)))) 0 0 (fun q => n0 ≤ q) := by
  refine gMet_of [gA n0 1, gJ a, gJ b] (by decide) (Nat.le_of_ble_eq_true rfl) ?_
  intro p e s m args below meth cd X hr hm
  have X : gCx p s m args meth cd n0 D cA "ParishUnion$Union" cX9_law 4 := X
  show G p l e ({ frames := 1, cells := 0, slots := 0, locals := 25 } : Room) s m args below meth cd n0 D cA 4 (MQ below (gQi n0 D cA sz (fun z M1 => M = M1 ∧ (0 ≤ z ∧ z ≤ 100 ∧ (a = 0 → z = 50) ∧ (a = 1 → z = 100) ∧ (a = 2 → z = 10) ∧ (a = 3 → z = 5) ∧ (a = 4 → z = 14) ∧ (a = 5 → z = 1) ∧ (a = 6 → z = 1) ∧ (a = 7 → z = 0) ∧ (a = 8 → z = 0) ∧ (a = 9 → z = 0)))) args s 0 0 (fun q => n0 ≤ q)) 0 0 M sz 0 [(0, gA n0 1), (1, gJ a), (2, gJ b)] []
  refine g_aload_n (n := 1) X 0 dX9_law_0 rfl rfl rfl ?_
  refine g_iload_n (n := 2) X 1 dX9_law_1 rfl rfl rfl ?_
  refine g_iload_n (n := 3) X 2 dX9_law_2 rfl rfl rfl ?_
  refine g_callVi (n := 6) (As := [gJ a, gJ b]) (rest := []) (cs1 := 0) (ss1 := 0) X (c_X9_actInForce a b (by omega) (by omega) (by omega) f_1_13) okX9_actInForce kw_3_141 ⟨kw_3_142, kw_3_143⟩ ⟨rfl, rfl⟩ ⟨Nat.le_of_ble_eq_true rfl, Nat.le_of_ble_eq_true rfl⟩ rfl (by omega) (by omega) lay_1 rfl rfl (Nat.le_of_ble_eq_true rfl) ⟨Nat.le_of_ble_eq_true rfl, Nat.le_of_ble_eq_true rfl⟩ rfl rfl dX9_law_3 rfl (fun z1 M2 P3 => ?_)
  obtain ⟨rfl, rfl⟩ := P3
  refine g_istore_n (n := 7) (L' := [(3, gJ (-1)), (0, gA n0 1), (1, gJ a), (2, gJ b)]) X dX9_law_6 rfl (by decide) rfl rfl ?_
  refine g_iload_n (n := 8) X 0 dX9_law_7 rfl rfl rfl ?_
  refine g_iconst (n := 9) X dX9_law_8 rfl ?_
  refine g_icmp_ne (n := 12) (tgt := 20) X dX9_law_9 (by decide) (by omega) (by omega) rfl (fun c4 => by exfalso; omega) (fun c4 => ?_)
  refine g_getsWA (n := 15) (host := "ParishUnion") X (by decide +kernel) rfl dX9_law_12 rfl (fun b5 hb5 => ?_)
  refine g_iload_n (n := 16) X 2 dX9_law_15 rfl rfl rfl ?_
  obtain ⟨y6, hy6, ky6⟩ := gWA_of (i := a) (by omega) (by omega)
  refine g_oldld (n := 17) (z := y6) X hb5 (by omega) (by omega) (by omega) dX9_law_16 rfl hy6 ?_
  refine g_goto (tgt := 31) X dX9_law_17 (by decide) ?_
  exact g_ireturn X hr dX9_law_31 (by exact ⟨rfl, by omega⟩)
theorem dX1_prepare_0 : decode cX1_prepare 0 = .ok (.iload_n 2, 1) := by decide +kernel
theorem dX1_prepare_1 : decode cX1_prepare 1 = .ok (.iconst (-1), 1) := by decide +kernel
theorem dX1_prepare_2 : decode cX1_prepare 2 = .ok (.if_icmp .ne 10, 3) := by decide +kernel
theorem dX1_prepare_12 : decode cX1_prepare 12 = .ok (.iload_n 2, 1) := by decide +kernel
theorem dX1_prepare_13 : decode cX1_prepare 13 = .ok (.istore_n 3, 1) := by decide +kernel
theorem dX1_prepare_14 : decode cX1_prepare 14 = .ok (.aload_n 0, 1) := by decide +kernel
theorem dX1_prepare_15 : decode cX1_prepare 15 = .ok (.aload_n 1, 1) := by decide +kernel
theorem dX1_prepare_16 : decode cX1_prepare 16 = .ok (.bipush 6, 2) := by decide +kernel
theorem dX1_prepare_18 : decode cX1_prepare 18 = .ok (.iconst 0, 1) := by decide +kernel
theorem dX1_prepare_19 : decode cX1_prepare 19 = .ok (.invokevirtual 34, 3) := by decide +kernel
theorem kw_3_137 : (Jvm.Cond.methodLink "ParishUnion$Bench" (34 : Nat) ({ cls := "ParishUnion$Union", name := "law", desc := "(II)I" } : Jvm.MethodName)) ∈ gT := gT_of (tb_3 _ (List.mem_of_getElem? (i := 137) rfl)) rfl
theorem kw_3_140 : (Jvm.Cond.code ({ cls := "ParishUnion$Union", name := "law", desc := "(II)I" } : Jvm.MethodName) prog_11_method_5_code (4 : Nat) (Option.some Jvm.ClassFile.FieldType.int)) ∈ gT := gT_of (tb_3 _ (List.mem_of_getElem? (i := 140) rfl)) rfl
theorem okX9_law : gQok yX9_law cX9_law 4 (Option.some Jvm.ClassFile.FieldType.int) 2 := ⟨kw_3_140, kw_1_2, by decide +kernel, by decide +kernel, by decide +kernel⟩
theorem kw_3_138 : (Jvm.Cond.instanceMethod ({ cls := "ParishUnion$Union", name := "law", desc := "(II)I" } : Jvm.MethodName)) ∈ gT := gT_of (tb_3 _ (List.mem_of_getElem? (i := 138) rfl)) rfl
theorem kw_3_139 : (Jvm.Cond.selects "ParishUnion$Union" ({ cls := "ParishUnion$Union", name := "law", desc := "(II)I" } : Jvm.MethodName) ({ cls := "ParishUnion$Union", name := "law", desc := "(II)I" } : Jvm.MethodName)) ∈ gT := gT_of (tb_3 _ (List.mem_of_getElem? (i := 139) rfl)) rfl
theorem dX1_prepare_22 : decode cX1_prepare 22 = .ok (.iconst 1, 1) := by decide +kernel
theorem dX1_prepare_23 : decode cX1_prepare 23 = .ok (.if_icmp .ne 7, 3) := by decide +kernel
theorem dX1_prepare_30 : decode cX1_prepare 30 = .ok (.iconst 0, 1) := by decide +kernel
theorem dX1_prepare_31 : decode cX1_prepare 31 = .ok (.putfield 38, 3) := by decide +kernel
theorem kw_2_185 : (Jvm.Cond.fieldLink "ParishUnion$Bench" (38 : Nat) "ParishUnion$Bench" "kin" "Z") ∈ gT := gT_of (tb_2 _ (List.mem_of_getElem? (i := 185) rfl)) rfl
theorem dX1_prepare_34 : decode cX1_prepare 34 = .ok (.aload_n 0, 1) := by decide +kernel
theorem dX1_prepare_35 : decode cX1_prepare 35 = .ok (.iconst 0, 1) := by decide +kernel
theorem dX1_prepare_36 : decode cX1_prepare 36 = .ok (.putfield 42, 3) := by decide +kernel
theorem kw_2_184 : (Jvm.Cond.fieldLink "ParishUnion$Bench" (42 : Nat) "ParishUnion$Bench" "doubtedCount" "I") ∈ gT := gT_of (tb_2 _ (List.mem_of_getElem? (i := 184) rfl)) rfl
theorem dX1_prepare_39 : decode cX1_prepare 39 = .ok (.iconst 0, 1) := by decide +kernel
theorem dX1_prepare_40 : decode cX1_prepare 40 = .ok (.istore 4, 2) := by decide +kernel
theorem dX1_prepare_42 : decode cX1_prepare 42 = .ok (.iload 4, 2) := by decide +kernel
theorem dX1_prepare_44 : decode cX1_prepare 44 = .ok (.aload_n 1, 1) := by decide +kernel
theorem dX1_prepare_45 : decode cX1_prepare 45 = .ok (.getfield 45, 3) := by decide +kernel
theorem kw_2_128 : (Jvm.Cond.fieldLink "ParishUnion$Bench" (45 : Nat) "ParishUnion$Union" "rightCount" "I") ∈ gT := gT_of (tb_2 _ (List.mem_of_getElem? (i := 128) rfl)) rfl
theorem dX1_prepare_48 : decode cX1_prepare 48 = .ok (.if_icmp .ge 86, 3) := by decide +kernel
theorem dX1_prepare_134 : decode cX1_prepare 134 = .ok (.return_, 1) := by decide +kernel
theorem dX1_prepare_26 : decode cX1_prepare 26 = .ok (.iconst 1, 1) := by decide +kernel
theorem dX1_prepare_27 : decode cX1_prepare 27 = .ok (.goto 4, 3) := by decide +kernel
theorem dX1_prepare_5 : decode cX1_prepare 5 = .ok (.aload_n 1, 1) := by decide +kernel
theorem dX1_prepare_6 : decode cX1_prepare 6 = .ok (.getfield 28, 3) := by decide +kernel
theorem kw_2_131 : (Jvm.Cond.fieldLink "ParishUnion$Bench" (28 : Nat) "ParishUnion$Union" "entries" "I") ∈ gT := gT_of (tb_2 _ (List.mem_of_getElem? (i := 131) rfl)) rfl
theorem dX1_prepare_9 : decode cX1_prepare 9 = .ok (.goto 4, 3) := by decide +kernel
set_option maxRecDepth 100000 in
set_option maxHeartbeats 4000000 in
theorem c_X1_prepare {l : Launch} {n0 : Nat} {D : va_G} {cA : Nat → ClassId} {M : gM} (a : Int) (r_a : -2147483648 ≤ a ∧ a ≤ 2147483647) {sz : Nat} (hsz : 206 ≤ sz) (f_1_12 : M 1 12 = 0) (f_1_13 : M 1 13 = 0) (f_1_11 : M 1 11 = 0) : Met l yX1_prepare (gWsOf yX1_prepare cX1_prepare 5 (Option.none : Option Jvm.ClassFile.FieldType)) { frames := 5, cells := 0, slots := 0, locals := 143 } (gPc n0 D cA [gA n0 153, gA n0 1, gJ a] M sz) (gQv n0 D cA sz (fun M1 => ∀ a : Int, a ≠ 153 → M1 a = M a)) 0 0 (fun q => n0 ≤ q) := by
  refine gMet_of [gA n0 153, gA n0 1, gJ a] (by decide) (Nat.le_of_ble_eq_true rfl) ?_
  intro p e s m args below meth cd X hr hm
  have X : gCx p s m args meth cd n0 D cA "ParishUnion$Bench" cX1_prepare 5 := X
  show G p l e ({ frames := 5, cells := 0, slots := 0, locals := 143 } : Room) s m args below meth cd n0 D cA 5 (MQ below (gQv n0 D cA sz (fun M1 => ∀ a : Int, a ≠ 153 → M1 a = M a)) args s 0 0 (fun q => n0 ≤ q)) 0 0 M sz 0 [(0, gA n0 153), (1, gA n0 1), (2, gJ a)] []
  refine g_iload_n (n := 1) X 2 dX1_prepare_0 rfl rfl rfl ?_
  refine g_iconst (n := 2) X dX1_prepare_1 rfl ?_
  refine g_icmp_ne (n := 5) (tgt := 12) X dX1_prepare_2 (by decide) (by omega) (by omega) rfl (fun c1 => ?_) (fun c1 => ?_)
  · refine g_iload_n (n := 13) X 2 dX1_prepare_12 rfl rfl rfl ?_
    refine g_istore_n (n := 14) (L' := [(3, gJ a), (0, gA n0 153), (1, gA n0 1), (2, gJ a)]) X dX1_prepare_13 rfl (by decide) rfl rfl ?_
    refine g_aload_n (n := 15) X 1 dX1_prepare_14 rfl rfl rfl ?_
    refine g_aload_n (n := 16) X 2 dX1_prepare_15 rfl rfl rfl ?_
    refine g_bipush (n := 18) X dX1_prepare_16 (by decide +kernel) rfl ?_
    refine g_iconst (n := 19) X dX1_prepare_18 rfl ?_
    refine g_callVi (n := 22) (As := [gJ 6, gJ 0]) (rest := [gA n0 153]) (cs1 := 0) (ss1 := 0) X (c_X9_law 6 0 (by omega) (by omega) (by omega) f_1_13 (by omega)) okX9_law kw_3_137 ⟨kw_3_138, kw_3_139⟩ ⟨rfl, rfl⟩ ⟨Nat.le_of_ble_eq_true rfl, Nat.le_of_ble_eq_true rfl⟩ rfl (by omega) (by omega) lay_1 rfl rfl (Nat.le_of_ble_eq_true rfl) ⟨Nat.le_of_ble_eq_true rfl, Nat.le_of_ble_eq_true rfl⟩ rfl rfl dX1_prepare_19 rfl (fun z2 M3 P4 => ?_)
    obtain ⟨rfl, P4⟩ := P4
    refine g_iconst (n := 23) X dX1_prepare_22 rfl ?_
    refine g_icmp_ne (n := 26) (tgt := 30) X dX1_prepare_23 (by decide) (by omega) (by omega) rfl (fun c5 => ?_) (fun c5 => ?_)
    · refine g_iconst (n := 31) X dX1_prepare_30 rfl ?_
      refine gp_1_6 (n := 34) X (by omega) (by omega) lay_153 kw_2_185 (by omega) dX1_prepare_31 rfl ?_
      refine G.nm (fun M6 e7 => ?_)
      refine g_aload_n (n := 35) X 1 dX1_prepare_34 rfl rfl rfl ?_
      refine g_iconst (n := 36) X dX1_prepare_35 rfl ?_
      refine gp_1_5 (n := 39) X (by omega) (by omega) lay_153 kw_2_184 dX1_prepare_36 rfl ?_
      refine G.nm (fun M8 e9 => ?_)
      refine g_iconst (n := 40) X dX1_prepare_39 rfl ?_
      refine g_istore (n := 42) (L' := [(4, gJ 0), (3, gJ a), (0, gA n0 153), (1, gA n0 1), (2, gJ a)]) X dX1_prepare_40 (by decide) rfl rfl ?_
      refine g_iload (n := 44) X 0 dX1_prepare_42 rfl rfl ?_
      refine g_aload_n (n := 45) X 3 dX1_prepare_44 rfl rfl rfl ?_
      refine gg_9_11 (n := 48) (z := 0) X (by omega) (by omega) lay_1 kw_2_128 dX1_prepare_45 rfl ((congrFun (congrFun e9 _) _).trans ((gset_ne (by omega)).trans ((congrFun (congrFun e7 _) _).trans ((gset_ne (by omega)).trans f_1_11)))) ?_
      refine g_icmp_ge (n := 51) (tgt := 134) X dX1_prepare_48 (by decide) (by omega) (by omega) rfl (fun c10 => ?_) (fun c10 => by exfalso; omega)
      exact g_return X hr dX1_prepare_134 (by exact (fun a h0 => ((congrFun e9 a).trans ((gset_off a (by omega)).trans ((congrFun e7 a).trans ((gset_off a (by omega)).trans rfl))))))
    · refine g_iconst (n := 27) X dX1_prepare_26 rfl ?_
      refine g_goto (tgt := 31) X dX1_prepare_27 (by decide) ?_
      refine gp_1_6 (n := 34) X (by omega) (by omega) lay_153 kw_2_185 (by omega) dX1_prepare_31 rfl ?_
      refine G.nm (fun M11 e12 => ?_)
      refine g_aload_n (n := 35) X 1 dX1_prepare_34 rfl rfl rfl ?_
      refine g_iconst (n := 36) X dX1_prepare_35 rfl ?_
      refine gp_1_5 (n := 39) X (by omega) (by omega) lay_153 kw_2_184 dX1_prepare_36 rfl ?_
      refine G.nm (fun M13 e14 => ?_)
      refine g_iconst (n := 40) X dX1_prepare_39 rfl ?_
      refine g_istore (n := 42) (L' := [(4, gJ 0), (3, gJ a), (0, gA n0 153), (1, gA n0 1), (2, gJ a)]) X dX1_prepare_40 (by decide) rfl rfl ?_
      refine g_iload (n := 44) X 0 dX1_prepare_42 rfl rfl ?_
      refine g_aload_n (n := 45) X 3 dX1_prepare_44 rfl rfl rfl ?_
      refine gg_9_11 (n := 48) (z := 0) X (by omega) (by omega) lay_1 kw_2_128 dX1_prepare_45 rfl ((congrFun (congrFun e14 _) _).trans ((gset_ne (by omega)).trans ((congrFun (congrFun e12 _) _).trans ((gset_ne (by omega)).trans f_1_11)))) ?_
      refine g_icmp_ge (n := 51) (tgt := 134) X dX1_prepare_48 (by decide) (by omega) (by omega) rfl (fun c15 => ?_) (fun c15 => by exfalso; omega)
      exact g_return X hr dX1_prepare_134 (by exact (fun a h0 => ((congrFun e14 a).trans ((gset_off a (by omega)).trans ((congrFun e12 a).trans ((gset_off a (by omega)).trans rfl))))))
  · refine g_aload_n (n := 6) X 1 dX1_prepare_5 rfl rfl rfl ?_
    refine gg_9_12 (n := 9) (z := 0) X (by omega) (by omega) lay_1 kw_2_131 dX1_prepare_6 rfl f_1_12 ?_
    refine g_goto (tgt := 13) X dX1_prepare_9 (by decide) ?_
    refine g_istore_n (n := 14) (L' := [(3, gJ 0), (0, gA n0 153), (1, gA n0 1), (2, gJ a)]) X dX1_prepare_13 rfl (by decide) rfl rfl ?_
    refine g_aload_n (n := 15) X 1 dX1_prepare_14 rfl rfl rfl ?_
    refine g_aload_n (n := 16) X 2 dX1_prepare_15 rfl rfl rfl ?_
    refine g_bipush (n := 18) X dX1_prepare_16 (by decide +kernel) rfl ?_
    refine g_iconst (n := 19) X dX1_prepare_18 rfl ?_
    refine g_callVi (n := 22) (As := [gJ 6, gJ 0]) (rest := [gA n0 153]) (cs1 := 0) (ss1 := 0) X (c_X9_law 6 0 (by omega) (by omega) (by omega) f_1_13 (by omega)) okX9_law kw_3_137 ⟨kw_3_138, kw_3_139⟩ ⟨rfl, rfl⟩ ⟨Nat.le_of_ble_eq_true rfl, Nat.le_of_ble_eq_true rfl⟩ rfl (by omega) (by omega) lay_1 rfl rfl (Nat.le_of_ble_eq_true rfl) ⟨Nat.le_of_ble_eq_true rfl, Nat.le_of_ble_eq_true rfl⟩ rfl rfl dX1_prepare_19 rfl (fun z16 M17 P18 => ?_)
    obtain ⟨rfl, P18⟩ := P18
    refine g_iconst (n := 23) X dX1_prepare_22 rfl ?_
    refine g_icmp_ne (n := 26) (tgt := 30) X dX1_prepare_23 (by decide) (by omega) (by omega) rfl (fun c19 => ?_) (fun c19 => ?_)
    · refine g_iconst (n := 31) X dX1_prepare_30 rfl ?_
      refine gp_1_6 (n := 34) X (by omega) (by omega) lay_153 kw_2_185 (by omega) dX1_prepare_31 rfl ?_
      refine G.nm (fun M20 e21 => ?_)
      refine g_aload_n (n := 35) X 1 dX1_prepare_34 rfl rfl rfl ?_
      refine g_iconst (n := 36) X dX1_prepare_35 rfl ?_
      refine gp_1_5 (n := 39) X (by omega) (by omega) lay_153 kw_2_184 dX1_prepare_36 rfl ?_
      refine G.nm (fun M22 e23 => ?_)
      refine g_iconst (n := 40) X dX1_prepare_39 rfl ?_
      refine g_istore (n := 42) (L' := [(4, gJ 0), (3, gJ 0), (0, gA n0 153), (1, gA n0 1), (2, gJ a)]) X dX1_prepare_40 (by decide) rfl rfl ?_
      refine g_iload (n := 44) X 0 dX1_prepare_42 rfl rfl ?_
      refine g_aload_n (n := 45) X 3 dX1_prepare_44 rfl rfl rfl ?_
      refine gg_9_11 (n := 48) (z := 0) X (by omega) (by omega) lay_1 kw_2_128 dX1_prepare_45 rfl ((congrFun (congrFun e23 _) _).trans ((gset_ne (by omega)).trans ((congrFun (congrFun e21 _) _).trans ((gset_ne (by omega)).trans f_1_11)))) ?_
      refine g_icmp_ge (n := 51) (tgt := 134) X dX1_prepare_48 (by decide) (by omega) (by omega) rfl (fun c24 => ?_) (fun c24 => by exfalso; omega)
      exact g_return X hr dX1_prepare_134 (by exact (fun a h0 => ((congrFun e23 a).trans ((gset_off a (by omega)).trans ((congrFun e21 a).trans ((gset_off a (by omega)).trans rfl))))))
    · refine g_iconst (n := 27) X dX1_prepare_26 rfl ?_
      refine g_goto (tgt := 31) X dX1_prepare_27 (by decide) ?_
      refine gp_1_6 (n := 34) X (by omega) (by omega) lay_153 kw_2_185 (by omega) dX1_prepare_31 rfl ?_
      refine G.nm (fun M25 e26 => ?_)
      refine g_aload_n (n := 35) X 1 dX1_prepare_34 rfl rfl rfl ?_
      refine g_iconst (n := 36) X dX1_prepare_35 rfl ?_
      refine gp_1_5 (n := 39) X (by omega) (by omega) lay_153 kw_2_184 dX1_prepare_36 rfl ?_
      refine G.nm (fun M27 e28 => ?_)
      refine g_iconst (n := 40) X dX1_prepare_39 rfl ?_
      refine g_istore (n := 42) (L' := [(4, gJ 0), (3, gJ 0), (0, gA n0 153), (1, gA n0 1), (2, gJ a)]) X dX1_prepare_40 (by decide) rfl rfl ?_
      refine g_iload (n := 44) X 0 dX1_prepare_42 rfl rfl ?_
      refine g_aload_n (n := 45) X 3 dX1_prepare_44 rfl rfl rfl ?_
      refine gg_9_11 (n := 48) (z := 0) X (by omega) (by omega) lay_1 kw_2_128 dX1_prepare_45 rfl ((congrFun (congrFun e28 _) _).trans ((gset_ne (by omega)).trans ((congrFun (congrFun e26 _) _).trans ((gset_ne (by omega)).trans f_1_11)))) ?_
      refine g_icmp_ge (n := 51) (tgt := 134) X dX1_prepare_48 (by decide) (by omega) (by omega) rfl (fun c29 => ?_) (fun c29 => by exfalso; omega)
      exact g_return X hr dX1_prepare_134 (by exact (fun a h0 => ((congrFun e28 a).trans ((gset_off a (by omega)).trans ((congrFun e26 a).trans ((gset_off a (by omega)).trans rfl))))))
theorem dX11_findHomes_0 : decode cX11_findHomes 0 = .ok (.aload_n 0, 1) := by decide +kernel
theorem dX11_findHomes_1 : decode cX11_findHomes 1 = .ok (.getfield 19, 3) := by decide +kernel
theorem kw_2_232 : (Jvm.Cond.fieldLink "ParishUnion" (19 : Nat) "ParishUnion" "bench" "LParishUnion$Bench;") ∈ gT := gT_of (tb_2 _ (List.mem_of_getElem? (i := 232) rfl)) rfl
theorem dX11_findHomes_4 : decode cX11_findHomes 4 = .ok (.aload_n 0, 1) := by decide +kernel
theorem dX11_findHomes_5 : decode cX11_findHomes 5 = .ok (.getfield 10, 3) := by decide +kernel
theorem dX11_findHomes_8 : decode cX11_findHomes 8 = .ok (.iconst (-1), 1) := by decide +kernel
theorem dX11_findHomes_9 : decode cX11_findHomes 9 = .ok (.invokevirtual 190, 3) := by decide +kernel
theorem kw_3_133 : (Jvm.Cond.methodLink "ParishUnion" (190 : Nat) ({ cls := "ParishUnion$Bench", name := "prepare", desc := "(LParishUnion$Union;I)V" } : Jvm.MethodName)) ∈ gT := gT_of (tb_3 _ (List.mem_of_getElem? (i := 133) rfl)) rfl
theorem kw_3_136 : (Jvm.Cond.code ({ cls := "ParishUnion$Bench", name := "prepare", desc := "(LParishUnion$Union;I)V" } : Jvm.MethodName) prog_3_method_2_code (5 : Nat) (Option.none : Option Jvm.ClassFile.FieldType)) ∈ gT := gT_of (tb_3 _ (List.mem_of_getElem? (i := 136) rfl)) rfl
theorem kw_1_11 : (Jvm.Cond.initialized "ParishUnion$Bench") ∈ gT := gT_of (tb_1 _ (List.mem_of_getElem? (i := 11) rfl)) rfl
theorem okX1_prepare : gQok yX1_prepare cX1_prepare 5 (Option.none : Option Jvm.ClassFile.FieldType) 2 := ⟨kw_3_136, kw_1_11, by decide +kernel, by decide +kernel, by decide +kernel⟩
theorem kw_3_134 : (Jvm.Cond.instanceMethod ({ cls := "ParishUnion$Bench", name := "prepare", desc := "(LParishUnion$Union;I)V" } : Jvm.MethodName)) ∈ gT := gT_of (tb_3 _ (List.mem_of_getElem? (i := 134) rfl)) rfl
theorem kw_3_135 : (Jvm.Cond.selects "ParishUnion$Bench" ({ cls := "ParishUnion$Bench", name := "prepare", desc := "(LParishUnion$Union;I)V" } : Jvm.MethodName) ({ cls := "ParishUnion$Bench", name := "prepare", desc := "(LParishUnion$Union;I)V" } : Jvm.MethodName)) ∈ gT := gT_of (tb_3 _ (List.mem_of_getElem? (i := 135) rfl)) rfl
theorem dX11_findHomes_12 : decode cX11_findHomes 12 = .ok (.iconst 0, 1) := by decide +kernel
theorem dX11_findHomes_13 : decode cX11_findHomes 13 = .ok (.istore_n 1, 1) := by decide +kernel
theorem dX11_findHomes_14 : decode cX11_findHomes 14 = .ok (.iload_n 1, 1) := by decide +kernel
theorem dX11_findHomes_15 : decode cX11_findHomes 15 = .ok (.aload_n 0, 1) := by decide +kernel
theorem dX11_findHomes_16 : decode cX11_findHomes 16 = .ok (.getfield 10, 3) := by decide +kernel
theorem dX11_findHomes_19 : decode cX11_findHomes 19 = .ok (.getfield 98, 3) := by decide +kernel
theorem dX11_findHomes_22 : decode cX11_findHomes 22 = .ok (.if_icmp .ge 43, 3) := by decide +kernel
theorem dX11_findHomes_65 : decode cX11_findHomes 65 = .ok (.return_, 1) := by decide +kernel
set_option maxRecDepth 100000 in
set_option maxHeartbeats 4000000 in
theorem c_X11_findHomes {l : Launch} {n0 : Nat} {D : va_G} {cA : Nat → ClassId} {M : gM}  {sz : Nat} (hsz : 206 ≤ sz) (f_0_0 : M 0 0 = 2) (f_0_1 : M 0 1 = 154) (f_1_12 : M 1 12 = 0) (f_1_13 : M 1 13 = 0) (f_1_11 : M 1 11 = 0) (f_1_10 : M 1 10 = 0) : Met l yX11_findHomes (gWsOf yX11_findHomes cX11_findHomes 2 (Option.none : Option Jvm.ClassFile.FieldType)) { frames := 6, cells := 0, slots := 0, locals := 167 } (gPc n0 D cA [gA n0 0] M sz) (gQv n0 D cA sz (fun M1 => ∀ a : Int, a ≠ 153 → M1 a = M a)) 0 0 (fun q => n0 ≤ q) := by
  refine gMet_of [gA n0 0] (by decide) (Nat.le_of_ble_eq_true rfl) ?_
  intro p e s m args below meth cd X hr hm
  have X : gCx p s m args meth cd n0 D cA "ParishUnion" cX11_findHomes 2 := X
  show G p l e ({ frames := 6, cells := 0, slots := 0, locals := 167 } : Room) s m args below meth cd n0 D cA 2 (MQ below (gQv n0 D cA sz (fun M1 => ∀ a : Int, a ≠ 153 → M1 a = M a)) args s 0 0 (fun q => n0 ≤ q)) 0 0 M sz 0 [(0, gA n0 0)] []
  refine g_aload_n (n := 1) X 0 dX11_findHomes_0 rfl rfl rfl ?_
  refine gg_11_1 (n := 4) (z := 153) X (by omega) (by omega) lay_0 kw_2_232 dX11_findHomes_1 rfl f_0_1 (by omega) ?_
  refine g_aload_n (n := 5) X 0 dX11_findHomes_4 rfl rfl rfl ?_
  refine gg_11_0 (n := 8) (z := 1) X (by omega) (by omega) lay_0 kw_2_231 dX11_findHomes_5 rfl f_0_0 (by omega) ?_
  refine g_iconst (n := 9) X dX11_findHomes_8 rfl ?_
  refine g_callVv (n := 12) (As := [gA n0 1, gJ (-1)]) (rest := []) (cs1 := 0) (ss1 := 0) X (c_X1_prepare (-1) (by omega) (by omega) f_1_12 f_1_13 f_1_11) okX1_prepare kw_3_133 ⟨kw_3_134, kw_3_135⟩ ⟨rfl, rfl⟩ ⟨Nat.le_of_ble_eq_true rfl, Nat.le_of_ble_eq_true rfl⟩ rfl (by omega) (by omega) lay_153 rfl rfl (Nat.le_of_ble_eq_true rfl) ⟨Nat.le_of_ble_eq_true rfl, Nat.le_of_ble_eq_true rfl⟩ rfl rfl dX11_findHomes_9 rfl (fun M2 P3 => ?_)
  have F4 := P3
  refine g_iconst (n := 13) X dX11_findHomes_12 rfl ?_
  refine g_istore_n (n := 14) (L' := [(1, gJ 0), (0, gA n0 0)]) X dX11_findHomes_13 rfl (by decide) rfl rfl ?_
  refine g_iload_n (n := 15) X 0 dX11_findHomes_14 rfl rfl rfl ?_
  refine g_aload_n (n := 16) X 1 dX11_findHomes_15 rfl rfl rfl ?_
  refine gg_11_0 (n := 19) (z := 1) X (by omega) (by omega) lay_0 kw_2_231 dX11_findHomes_16 rfl ((congrFun (F4 0 (by omega)) _).trans f_0_0) (by omega) ?_
  refine gg_9_10 (n := 22) (z := 0) X (by omega) (by omega) lay_1 kw_2_127 dX11_findHomes_19 rfl ((congrFun (F4 1 (by omega)) _).trans f_1_10) ?_
  refine g_icmp_ge (n := 25) (tgt := 65) X dX11_findHomes_22 (by decide) (by omega) (by omega) rfl (fun c5 => ?_) (fun c5 => by exfalso; omega)
  exact g_return X hr dX11_findHomes_65 (by exact (fun a h0 => ((F4 a (by omega)).trans rfl)))
theorem dX11_unlike_0 : decode cX11_unlike 0 = .ok (.aload_n 0, 1) := by decide +kernel
theorem dX11_unlike_1 : decode cX11_unlike 1 = .ok (.iload_n 1, 1) := by decide +kernel
theorem dX11_unlike_2 : decode cX11_unlike 2 = .ok (.invokevirtual 187, 3) := by decide +kernel
theorem kw_3_129 : (Jvm.Cond.methodLink "ParishUnion" (187 : Nat) ({ cls := "ParishUnion", name := "isEntryCount", desc := "(I)Z" } : Jvm.MethodName)) ∈ gT := gT_of (tb_3 _ (List.mem_of_getElem? (i := 129) rfl)) rfl
theorem kw_3_132 : (Jvm.Cond.code ({ cls := "ParishUnion", name := "isEntryCount", desc := "(I)Z" } : Jvm.MethodName) prog_1_method_54_code (2 : Nat) (Option.some Jvm.ClassFile.FieldType.boolean)) ∈ gT := gT_of (tb_3 _ (List.mem_of_getElem? (i := 132) rfl)) rfl
theorem okX11_isEntryCount : gQok yX11_isEntryCount cX11_isEntryCount 2 (Option.some Jvm.ClassFile.FieldType.boolean) 1 := ⟨kw_3_132, kw_1_1, by decide +kernel, by decide +kernel, by decide +kernel⟩
theorem kw_3_131 : (Jvm.Cond.instanceMethod ({ cls := "ParishUnion", name := "isEntryCount", desc := "(I)Z" } : Jvm.MethodName)) ∈ gT := gT_of (tb_3 _ (List.mem_of_getElem? (i := 131) rfl)) rfl
theorem kw_0_2 : (Jvm.Cond.selects "ParishUnion" ({ cls := "ParishUnion", name := "isEntryCount", desc := "(I)Z" } : Jvm.MethodName) ({ cls := "ParishUnion", name := "isEntryCount", desc := "(I)Z" } : Jvm.MethodName)) ∈ gT := gT_of (tb_0 _ (List.mem_of_getElem? (i := 2) rfl)) rfl
theorem dX11_unlike_5 : decode cX11_unlike 5 = .ok (.ifCond .ne 5, 3) := by decide +kernel
theorem dX11_unlike_10 : decode cX11_unlike 10 = .ok (.aload_n 0, 1) := by decide +kernel
theorem dX11_unlike_11 : decode cX11_unlike 11 = .ok (.getfield 19, 3) := by decide +kernel
theorem dX11_unlike_14 : decode cX11_unlike 14 = .ok (.aload_n 0, 1) := by decide +kernel
theorem dX11_unlike_15 : decode cX11_unlike 15 = .ok (.getfield 10, 3) := by decide +kernel
theorem dX11_unlike_18 : decode cX11_unlike 18 = .ok (.iload_n 1, 1) := by decide +kernel
theorem dX11_unlike_19 : decode cX11_unlike 19 = .ok (.invokevirtual 190, 3) := by decide +kernel
theorem dX11_unlike_22 : decode cX11_unlike 22 = .ok (.iconst 0, 1) := by decide +kernel
theorem dX11_unlike_23 : decode cX11_unlike 23 = .ok (.istore_n 2, 1) := by decide +kernel
theorem dX11_unlike_24 : decode cX11_unlike 24 = .ok (.iconst 0, 1) := by decide +kernel
theorem dX11_unlike_25 : decode cX11_unlike 25 = .ok (.istore_n 3, 1) := by decide +kernel
theorem dX11_unlike_26 : decode cX11_unlike 26 = .ok (.iload_n 3, 1) := by decide +kernel
theorem dX11_unlike_27 : decode cX11_unlike 27 = .ok (.aload_n 0, 1) := by decide +kernel
theorem dX11_unlike_28 : decode cX11_unlike 28 = .ok (.getfield 10, 3) := by decide +kernel
theorem dX11_unlike_31 : decode cX11_unlike 31 = .ok (.getfield 247, 3) := by decide +kernel
theorem dX11_unlike_34 : decode cX11_unlike 34 = .ok (.getfield 251, 3) := by decide +kernel
theorem dX11_unlike_37 : decode cX11_unlike 37 = .ok (.if_icmp .ge 30, 3) := by decide +kernel
theorem dX11_unlike_67 : decode cX11_unlike 67 = .ok (.iload_n 2, 1) := by decide +kernel
theorem dX11_unlike_68 : decode cX11_unlike 68 = .ok (.ireturn, 1) := by decide +kernel
theorem dX11_unlike_8 : decode cX11_unlike 8 = .ok (.iconst (-1), 1) := by decide +kernel
theorem dX11_unlike_9 : decode cX11_unlike 9 = .ok (.ireturn, 1) := by decide +kernel
set_option maxRecDepth 100000 in
set_option maxHeartbeats 4000000 in
theorem c_X11_unlike {l : Launch} {n0 : Nat} {D : va_G} {cA : Nat → ClassId} {M : gM} (a : Int) (r_a : -2147483648 ≤ a ∧ a ≤ 2147483647) {sz : Nat} (hsz : 206 ≤ sz) (f_0_0 : M 0 0 = 2) (f_0_1 : M 0 1 = 154) (f_1_12 : M 1 12 = 0) (f_1_13 : M 1 13 = 0) (f_1_11 : M 1 11 = 0) (f_1_5 : M 1 5 = 10) (f_9_5 : M 9 5 = 0) : Met l yX11_unlike (gWsOf yX11_unlike cX11_unlike 4 (Option.some Jvm.ClassFile.FieldType.int)) { frames := 6, cells := 0, slots := 0, locals := 167 } (gPc n0 D cA [gA n0 0, gJ a] M sz) (gQi n0 D cA sz (fun z M1 => (((¬(-1 ≤ a ∧ a ≤ 0)) → z = -1) ∧ (¬(¬(-1 ≤ a ∧ a ≤ 0)) → (z = 0))) ∧ ∀ a : Int, a ≠ 153 → M1 a = M a)) 0 0 (fun q => n0 ≤ q) := by
  refine gMet_of [gA n0 0, gJ a] (by decide) (Nat.le_of_ble_eq_true rfl) ?_
  intro p e s m args below meth cd X hr hm
  have X : gCx p s m args meth cd n0 D cA "ParishUnion" cX11_unlike 4 := X
  show G p l e ({ frames := 6, cells := 0, slots := 0, locals := 167 } : Room) s m args below meth cd n0 D cA 4 (MQ below (gQi n0 D cA sz (fun z M1 => (((¬(-1 ≤ a ∧ a ≤ 0)) → z = -1) ∧ (¬(¬(-1 ≤ a ∧ a ≤ 0)) → (z = 0))) ∧ ∀ a : Int, a ≠ 153 → M1 a = M a)) args s 0 0 (fun q => n0 ≤ q)) 0 0 M sz 0 [(0, gA n0 0), (1, gJ a)] []
  refine g_aload_n (n := 1) X 0 dX11_unlike_0 rfl rfl rfl ?_
  refine g_iload_n (n := 2) X 1 dX11_unlike_1 rfl rfl rfl ?_
  refine g_callVi (n := 5) (As := [gJ a]) (rest := []) (cs1 := 0) (ss1 := 0) X (c_X11_isEntryCount a (by omega) (by omega) f_0_0 f_1_12) okX11_isEntryCount kw_3_129 ⟨kw_3_131, kw_0_2⟩ ⟨rfl, rfl⟩ ⟨Nat.le_of_ble_eq_true rfl, Nat.le_of_ble_eq_true rfl⟩ rfl (by omega) (by omega) lay_0 rfl rfl (Nat.le_of_ble_eq_true rfl) ⟨Nat.le_of_ble_eq_true rfl, Nat.le_of_ble_eq_true rfl⟩ rfl rfl dX11_unlike_2 rfl (fun z1 M2 P3 => ?_)
  obtain ⟨rfl, P3⟩ := P3
  refine g_if_ne (n := 8) (tgt := 10) X dX11_unlike_5 (by decide) (by omega) rfl (fun c4 => ?_) (fun c4 => ?_)
  · refine g_aload_n (n := 11) X 0 dX11_unlike_10 rfl rfl rfl ?_
    refine gg_11_1 (n := 14) (z := 153) X (by omega) (by omega) lay_0 kw_2_232 dX11_unlike_11 rfl f_0_1 (by omega) ?_
    refine g_aload_n (n := 15) X 0 dX11_unlike_14 rfl rfl rfl ?_
    refine gg_11_0 (n := 18) (z := 1) X (by omega) (by omega) lay_0 kw_2_231 dX11_unlike_15 rfl f_0_0 (by omega) ?_
    refine g_iload_n (n := 19) X 1 dX11_unlike_18 rfl rfl rfl ?_
    refine g_callVv (n := 22) (As := [gA n0 1, gJ a]) (rest := []) (cs1 := 0) (ss1 := 0) X (c_X1_prepare a (by omega) (by omega) f_1_12 f_1_13 f_1_11) okX1_prepare kw_3_133 ⟨kw_3_134, kw_3_135⟩ ⟨rfl, rfl⟩ ⟨Nat.le_of_ble_eq_true rfl, Nat.le_of_ble_eq_true rfl⟩ rfl (by omega) (by omega) lay_153 rfl rfl (Nat.le_of_ble_eq_true rfl) ⟨Nat.le_of_ble_eq_true rfl, Nat.le_of_ble_eq_true rfl⟩ rfl rfl dX11_unlike_19 rfl (fun M6 P7 => ?_)
    have F8 := P7
    refine g_iconst (n := 23) X dX11_unlike_22 rfl ?_
    refine g_istore_n (n := 24) (L' := [(2, gJ 0), (0, gA n0 0), (1, gJ a)]) X dX11_unlike_23 rfl (by decide) rfl rfl ?_
    refine g_iconst (n := 25) X dX11_unlike_24 rfl ?_
    refine g_istore_n (n := 26) (L' := [(3, gJ 0), (2, gJ 0), (0, gA n0 0), (1, gJ a)]) X dX11_unlike_25 rfl (by decide) rfl rfl ?_
    refine g_iload_n (n := 27) X 0 dX11_unlike_26 rfl rfl rfl ?_
    refine g_aload_n (n := 28) X 2 dX11_unlike_27 rfl rfl rfl ?_
    refine gg_11_0 (n := 31) (z := 1) X (by omega) (by omega) lay_0 kw_2_231 dX11_unlike_28 rfl ((congrFun (F8 0 (by omega)) _).trans f_0_0) (by omega) ?_
    refine gg_9_5 (n := 34) (z := 9) X (by omega) (by omega) lay_1 kw_2_117 dX11_unlike_31 rfl ((congrFun (F8 1 (by omega)) _).trans f_1_5) (by omega) ?_
    refine gg_4_5 (n := 37) (z := 0) X (by omega) (by omega) lay_9 kw_1_73 dX11_unlike_34 rfl ((congrFun (F8 9 (by omega)) _).trans f_9_5) ?_
    refine g_icmp_ge (n := 40) (tgt := 67) X dX11_unlike_37 (by decide) (by omega) (by omega) rfl (fun c9 => ?_) (fun c9 => by exfalso; omega)
    refine g_iload_n (n := 68) X 1 dX11_unlike_67 rfl rfl rfl ?_
    exact g_ireturn X hr dX11_unlike_68 (by exact ⟨by omega, fun a h0 => ((F8 a (by omega)).trans rfl)⟩)
  · refine g_iconst (n := 9) X dX11_unlike_8 rfl ?_
    exact g_ireturn X hr dX11_unlike_9 (by exact ⟨by omega, fun a h0 => rfl⟩)
theorem dX11_force_0 : decode cX11_force 0 = .ok (.iload_n 2, 1) := by decide +kernel
theorem dX11_force_1 : decode cX11_force 1 = .ok (.iconst 0, 1) := by decide +kernel
theorem dX11_force_2 : decode cX11_force 2 = .ok (.bipush 19, 2) := by decide +kernel
theorem dX11_force_4 : decode cX11_force 4 = .ok (.invokestatic 62, 3) := by decide +kernel
theorem dX11_force_7 : decode cX11_force 7 = .ok (.ifCond .ne 5, 3) := by decide +kernel
theorem dX11_force_12 : decode cX11_force 12 = .ok (.iload_n 1, 1) := by decide +kernel
theorem dX11_force_13 : decode cX11_force 13 = .ok (.iconst 0, 1) := by decide +kernel
theorem dX11_force_14 : decode cX11_force 14 = .ok (.sipush 300, 3) := by decide +kernel
theorem dX11_force_17 : decode cX11_force 17 = .ok (.invokestatic 62, 3) := by decide +kernel
theorem dX11_force_20 : decode cX11_force 20 = .ok (.ifCond .ne 6, 3) := by decide +kernel
theorem dX11_force_26 : decode cX11_force 26 = .ok (.iload_n 2, 1) := by decide +kernel
theorem dX11_force_27 : decode cX11_force 27 = .ok (.bipush 10, 2) := by decide +kernel
theorem dX11_force_29 : decode cX11_force 29 = .ok (.if_icmp .ge 15, 3) := by decide +kernel
theorem dX11_force_44 : decode cX11_force 44 = .ok (.aload_n 0, 1) := by decide +kernel
theorem dX11_force_45 : decode cX11_force 45 = .ok (.getfield 10, 3) := by decide +kernel
theorem dX11_force_48 : decode cX11_force 48 = .ok (.iload_n 2, 1) := by decide +kernel
theorem dX11_force_49 : decode cX11_force 49 = .ok (.bipush 10, 2) := by decide +kernel
theorem dX11_force_51 : decode cX11_force 51 = .ok (.isub, 1) := by decide +kernel
theorem dX11_force_52 : decode cX11_force 52 = .ok (.iload_n 1, 1) := by decide +kernel
theorem dX11_force_53 : decode cX11_force 53 = .ok (.invokevirtual 228, 3) := by decide +kernel
theorem kw_4_92 : (Jvm.Cond.methodLink "ParishUnion" (228 : Nat) ({ cls := "ParishUnion$Union", name := "actInForce", desc := "(II)I" } : Jvm.MethodName)) ∈ gT := gT_of (tb_4 _ (List.mem_of_getElem? (i := 92) rfl)) rfl
theorem dX11_force_56 : decode cX11_force 56 = .ok (.ireturn, 1) := by decide +kernel
theorem dX11_force_32 : decode cX11_force 32 = .ok (.aload_n 0, 1) := by decide +kernel
theorem dX11_force_33 : decode cX11_force 33 = .ok (.getfield 10, 3) := by decide +kernel
theorem dX11_force_36 : decode cX11_force 36 = .ok (.iload_n 2, 1) := by decide +kernel
theorem dX11_force_37 : decode cX11_force 37 = .ok (.iload_n 1, 1) := by decide +kernel
theorem dX11_force_38 : decode cX11_force 38 = .ok (.invokevirtual 225, 3) := by decide +kernel
theorem kw_4_91 : (Jvm.Cond.methodLink "ParishUnion" (225 : Nat) ({ cls := "ParishUnion$Union", name := "law", desc := "(II)I" } : Jvm.MethodName)) ∈ gT := gT_of (tb_4 _ (List.mem_of_getElem? (i := 91) rfl)) rfl
theorem dX11_force_41 : decode cX11_force 41 = .ok (.goto 15, 3) := by decide +kernel
theorem dX11_force_23 : decode cX11_force 23 = .ok (.bipush (-2), 2) := by decide +kernel
theorem dX11_force_25 : decode cX11_force 25 = .ok (.ireturn, 1) := by decide +kernel
theorem dX11_force_10 : decode cX11_force 10 = .ok (.iconst (-1), 1) := by decide +kernel
theorem dX11_force_11 : decode cX11_force 11 = .ok (.ireturn, 1) := by decide +kernel
set_option maxRecDepth 100000 in
set_option maxHeartbeats 4000000 in
theorem c_X11_force {l : Launch} {n0 : Nat} {D : va_G} {cA : Nat → ClassId} {M : gM} (a b : Int) (r_a : -2147483648 ≤ a ∧ a ≤ 2147483647) (r_b : -2147483648 ≤ b ∧ b ≤ 2147483647) {sz : Nat} (hsz : 206 ≤ sz) (f_0_0 : M 0 0 = 2) (f_1_13 : M 1 13 = 0) : Met l yX11_force (gWsOf yX11_force cX11_force 3 (Option.some Jvm.ClassFile.FieldType.int)) { frames := 2, cells := 0, slots := 0, locals := 48 } (gPc n0 D cA [gA n0 0, gJ a, gJ b] M sz) (gQi n0 D cA sz (fun z M1 => ((¬(0 ≤ b ∧ b ≤ 19) → z = -1) ∧ (0 ≤ b → b ≤ 19 → ¬(0 ≤ a ∧ a ≤ 300) → z = -2) ∧ (10 ≤ b → b ≤ 19 → 0 ≤ a → a ≤ 300 → z = -1) ∧ (0 ≤ b → b ≤ 9 → 0 ≤ a → a ≤ 300 → ((b = 0 → z = 50) ∧ (b = 1 → z = 100) ∧ (b = 2 → z = 10) ∧ (b = 3 → z = 5) ∧ (b = 4 → z = 14) ∧ (b = 5 → z = 1) ∧ (b = 6 → z = 1) ∧ (b = 7 → z = 0) ∧ (b = 8 → z = 0) ∧ (b = 9 → z = 0)))) ∧ ∀ a : Int, M1 a = M a)) 0 0 (fun q => n0 ≤ q) := by
  refine gMet_of [gA n0 0, gJ a, gJ b] (by decide) (Nat.le_of_ble_eq_true rfl) ?_
  intro p e s m args below meth cd X hr hm
  have X : gCx p s m args meth cd n0 D cA "ParishUnion" cX11_force 3 := X
  show G p l e ({ frames := 2, cells := 0, slots := 0, locals := 48 } : Room) s m args below meth cd n0 D cA 3 (MQ below (gQi n0 D cA sz (fun z M1 => ((¬(0 ≤ b ∧ b ≤ 19) → z = -1) ∧ (0 ≤ b → b ≤ 19 → ¬(0 ≤ a ∧ a ≤ 300) → z = -2) ∧ (10 ≤ b → b ≤ 19 → 0 ≤ a → a ≤ 300 → z = -1) ∧ (0 ≤ b → b ≤ 9 → 0 ≤ a → a ≤ 300 → ((b = 0 → z = 50) ∧ (b = 1 → z = 100) ∧ (b = 2 → z = 10) ∧ (b = 3 → z = 5) ∧ (b = 4 → z = 14) ∧ (b = 5 → z = 1) ∧ (b = 6 → z = 1) ∧ (b = 7 → z = 0) ∧ (b = 8 → z = 0) ∧ (b = 9 → z = 0)))) ∧ ∀ a : Int, M1 a = M a)) args s 0 0 (fun q => n0 ≤ q)) 0 0 M sz 0 [(0, gA n0 0), (1, gJ a), (2, gJ b)] []
  refine g_iload_n (n := 1) X 2 dX11_force_0 rfl rfl rfl ?_
  refine g_iconst (n := 2) X dX11_force_1 rfl ?_
  refine g_bipush (n := 4) X dX11_force_2 (by decide +kernel) rfl ?_
  refine g_callSi (n := 7) (As := [gJ b, gJ 0, gJ 19]) (rest := []) (cs1 := 0) (ss1 := 0) X (c_X11_within b 0 19 (by omega) (by omega) (by omega) (by omega)) okX11_within kw_3_29 kw_3_30 ⟨rfl, rfl⟩ ⟨Nat.le_of_ble_eq_true rfl, Nat.le_of_ble_eq_true rfl⟩ rfl rfl (Nat.le_of_ble_eq_true rfl) ⟨Nat.le_of_ble_eq_true rfl, Nat.le_of_ble_eq_true rfl⟩ rfl rfl dX11_force_4 rfl (fun z1 M2 P3 => ?_)
  obtain ⟨rfl, P3⟩ := P3
  refine g_if_ne (n := 10) (tgt := 12) X dX11_force_7 (by decide) (by omega) rfl (fun c4 => ?_) (fun c4 => ?_)
  · refine g_iload_n (n := 13) X 1 dX11_force_12 rfl rfl rfl ?_
    refine g_iconst (n := 14) X dX11_force_13 rfl ?_
    refine g_sipush (n := 17) X dX11_force_14 (by decide +kernel) rfl ?_
    refine g_callSi (n := 20) (As := [gJ a, gJ 0, gJ 300]) (rest := []) (cs1 := 0) (ss1 := 0) X (c_X11_within a 0 300 (by omega) (by omega) (by omega) (by omega)) okX11_within kw_3_29 kw_3_30 ⟨rfl, rfl⟩ ⟨Nat.le_of_ble_eq_true rfl, Nat.le_of_ble_eq_true rfl⟩ rfl rfl (Nat.le_of_ble_eq_true rfl) ⟨Nat.le_of_ble_eq_true rfl, Nat.le_of_ble_eq_true rfl⟩ rfl rfl dX11_force_17 rfl (fun z5 M6 P7 => ?_)
    obtain ⟨rfl, P7⟩ := P7
    refine g_if_ne (n := 23) (tgt := 26) X dX11_force_20 (by decide) (by omega) rfl (fun c8 => ?_) (fun c8 => ?_)
    · refine g_iload_n (n := 27) X 2 dX11_force_26 rfl rfl rfl ?_
      refine g_bipush (n := 29) X dX11_force_27 (by decide +kernel) rfl ?_
      refine g_icmp_ge (n := 32) (tgt := 44) X dX11_force_29 (by decide) (by omega) (by omega) rfl (fun c9 => ?_) (fun c9 => ?_)
      · refine g_aload_n (n := 45) X 0 dX11_force_44 rfl rfl rfl ?_
        refine gg_11_0 (n := 48) (z := 1) X (by omega) (by omega) lay_0 kw_2_231 dX11_force_45 rfl f_0_0 (by omega) ?_
        refine g_iload_n (n := 49) X 2 dX11_force_48 rfl rfl rfl ?_
        refine g_bipush (n := 51) X dX11_force_49 (by decide +kernel) rfl ?_
        refine g_isub (n := 52) (z := b - 10) X dX11_force_51 rfl rfl ?_
        refine g_iload_n (n := 53) X 1 dX11_force_52 rfl rfl rfl ?_
        refine g_callVi (n := 56) (As := [gJ (b - 10), gJ a]) (rest := []) (cs1 := 0) (ss1 := 0) X (c_X9_actInForce (b - 10) a (by omega) (by omega) (by omega) f_1_13) okX9_actInForce kw_4_92 ⟨kw_3_142, kw_3_143⟩ ⟨rfl, rfl⟩ ⟨Nat.le_of_ble_eq_true rfl, Nat.le_of_ble_eq_true rfl⟩ rfl (by omega) (by omega) lay_1 rfl rfl (Nat.le_of_ble_eq_true rfl) ⟨Nat.le_of_ble_eq_true rfl, Nat.le_of_ble_eq_true rfl⟩ rfl rfl dX11_force_53 rfl (fun z10 M11 P12 => ?_)
        obtain ⟨rfl, rfl⟩ := P12
        exact g_ireturn X hr dX11_force_56 (by exact ⟨by omega, fun a  => rfl⟩)
      · refine g_aload_n (n := 33) X 0 dX11_force_32 rfl rfl rfl ?_
        refine gg_11_0 (n := 36) (z := 1) X (by omega) (by omega) lay_0 kw_2_231 dX11_force_33 rfl f_0_0 (by omega) ?_
        refine g_iload_n (n := 37) X 2 dX11_force_36 rfl rfl rfl ?_
        refine g_iload_n (n := 38) X 1 dX11_force_37 rfl rfl rfl ?_
        refine g_callVi (n := 41) (As := [gJ b, gJ a]) (rest := []) (cs1 := 0) (ss1 := 0) X (c_X9_law b a (by omega) (by omega) (by omega) f_1_13 (by omega)) okX9_law kw_4_91 ⟨kw_3_138, kw_3_139⟩ ⟨rfl, rfl⟩ ⟨Nat.le_of_ble_eq_true rfl, Nat.le_of_ble_eq_true rfl⟩ rfl (by omega) (by omega) lay_1 rfl rfl (Nat.le_of_ble_eq_true rfl) ⟨Nat.le_of_ble_eq_true rfl, Nat.le_of_ble_eq_true rfl⟩ rfl rfl dX11_force_38 rfl (fun z13 M14 P15 => ?_)
        obtain ⟨rfl, P15⟩ := P15
        refine g_goto (tgt := 56) X dX11_force_41 (by decide) ?_
        exact g_ireturn X hr dX11_force_56 (by exact ⟨by omega, fun a  => rfl⟩)
    · refine g_bipush (n := 25) X dX11_force_23 (by decide +kernel) rfl ?_
      exact g_ireturn X hr dX11_force_25 (by exact ⟨by omega, fun a  => rfl⟩)
  · refine g_iconst (n := 11) X dX11_force_10 rfl ?_
    exact g_ireturn X hr dX11_force_11 (by exact ⟨by omega, fun a  => rfl⟩)
theorem dX9_personsAt_0 : decode cX9_personsAt 0 = .ok (.iconst 0, 1) := by decide +kernel
theorem dX9_personsAt_1 : decode cX9_personsAt 1 = .ok (.istore_n 2, 1) := by decide +kernel
theorem dX9_personsAt_2 : decode cX9_personsAt 2 = .ok (.iconst 0, 1) := by decide +kernel
theorem dX9_personsAt_3 : decode cX9_personsAt 3 = .ok (.istore_n 3, 1) := by decide +kernel
theorem dX9_personsAt_4 : decode cX9_personsAt 4 = .ok (.iload_n 3, 1) := by decide +kernel
theorem dX9_personsAt_5 : decode cX9_personsAt 5 = .ok (.aload_n 0, 1) := by decide +kernel
theorem dX9_personsAt_6 : decode cX9_personsAt 6 = .ok (.getfield 79, 3) := by decide +kernel
theorem kw_2_126 : (Jvm.Cond.fieldLink "ParishUnion$Union" (79 : Nat) "ParishUnion$Union" "personCount" "I") ∈ gT := gT_of (tb_2 _ (List.mem_of_getElem? (i := 126) rfl)) rfl
theorem dX9_personsAt_9 : decode cX9_personsAt 9 = .ok (.if_icmp .ge 25, 3) := by decide +kernel
theorem dX9_personsAt_34 : decode cX9_personsAt 34 = .ok (.iload_n 2, 1) := by decide +kernel
theorem dX9_personsAt_35 : decode cX9_personsAt 35 = .ok (.ireturn, 1) := by decide +kernel
set_option maxRecDepth 100000 in
set_option maxHeartbeats 4000000 in
theorem c_X9_personsAt {l : Launch} {n0 : Nat} {D : va_G} {cA : Nat → ClassId} {M : gM} (a : Int) (r_a : -2147483648 ≤ a ∧ a ≤ 2147483647) {sz : Nat} (hsz : 206 ≤ sz) (f_1_10 : M 1 10 = 0) : Met l yX9_personsAt (gWsOf yX9_personsAt cX9_personsAt 4 (Option.some Jvm.ClassFile.FieldType.int)) { frames := 0, cells := 0, slots := 0, locals := 0 } (gPc n0 D cA [gA n0 1, gJ a] M sz) (gQi n0 D cA sz (fun z M1 => M = M1 ∧ (z = 0))) 0 0 (fun q => n0 ≤ q) := by
  refine gMet_of [gA n0 1, gJ a] (by decide) (Nat.le_of_ble_eq_true rfl) ?_
  intro p e s m args below meth cd X hr hm
  have X : gCx p s m args meth cd n0 D cA "ParishUnion$Union" cX9_personsAt 4 := X
  show G p l e ({ frames := 0, cells := 0, slots := 0, locals := 0 } : Room) s m args below meth cd n0 D cA 4 (MQ below (gQi n0 D cA sz (fun z M1 => M = M1 ∧ (z = 0))) args s 0 0 (fun q => n0 ≤ q)) 0 0 M sz 0 [(0, gA n0 1), (1, gJ a)] []
  refine g_iconst (n := 1) X dX9_personsAt_0 rfl ?_
  refine g_istore_n (n := 2) (L' := [(2, gJ 0), (0, gA n0 1), (1, gJ a)]) X dX9_personsAt_1 rfl (by decide) rfl rfl ?_
  refine g_iconst (n := 3) X dX9_personsAt_2 rfl ?_
  refine g_istore_n (n := 4) (L' := [(3, gJ 0), (2, gJ 0), (0, gA n0 1), (1, gJ a)]) X dX9_personsAt_3 rfl (by decide) rfl rfl ?_
  refine g_iload_n (n := 5) X 0 dX9_personsAt_4 rfl rfl rfl ?_
  refine g_aload_n (n := 6) X 2 dX9_personsAt_5 rfl rfl rfl ?_
  refine gg_9_10 (n := 9) (z := 0) X (by omega) (by omega) lay_1 kw_2_126 dX9_personsAt_6 rfl f_1_10 ?_
  refine g_icmp_ge (n := 12) (tgt := 34) X dX9_personsAt_9 (by decide) (by omega) (by omega) rfl (fun c1 => ?_) (fun c1 => by exfalso; omega)
  refine g_iload_n (n := 35) X 1 dX9_personsAt_34 rfl rfl rfl ?_
  exact g_ireturn X hr dX9_personsAt_35 (by exact ⟨rfl, by omega⟩)
theorem dX9_boundTo_0 : decode cX9_boundTo 0 = .ok (.iconst 0, 1) := by decide +kernel
theorem dX9_boundTo_1 : decode cX9_boundTo 1 = .ok (.istore_n 2, 1) := by decide +kernel
theorem dX9_boundTo_2 : decode cX9_boundTo 2 = .ok (.iconst 0, 1) := by decide +kernel
theorem dX9_boundTo_3 : decode cX9_boundTo 3 = .ok (.istore_n 3, 1) := by decide +kernel
theorem dX9_boundTo_4 : decode cX9_boundTo 4 = .ok (.iload_n 3, 1) := by decide +kernel
theorem dX9_boundTo_5 : decode cX9_boundTo 5 = .ok (.aload_n 0, 1) := by decide +kernel
theorem dX9_boundTo_6 : decode cX9_boundTo 6 = .ok (.getfield 79, 3) := by decide +kernel
theorem dX9_boundTo_9 : decode cX9_boundTo 9 = .ok (.if_icmp .ge 25, 3) := by decide +kernel
theorem dX9_boundTo_34 : decode cX9_boundTo 34 = .ok (.iload_n 2, 1) := by decide +kernel
theorem dX9_boundTo_35 : decode cX9_boundTo 35 = .ok (.ireturn, 1) := by decide +kernel
set_option maxRecDepth 100000 in
set_option maxHeartbeats 4000000 in
theorem c_X9_boundTo {l : Launch} {n0 : Nat} {D : va_G} {cA : Nat → ClassId} {M : gM} (a : Int) (r_a : -2147483648 ≤ a ∧ a ≤ 2147483647) {sz : Nat} (hsz : 206 ≤ sz) (f_1_10 : M 1 10 = 0) : Met l yX9_boundTo (gWsOf yX9_boundTo cX9_boundTo 4 (Option.some Jvm.ClassFile.FieldType.int)) { frames := 0, cells := 0, slots := 0, locals := 0 } (gPc n0 D cA [gA n0 1, gJ a] M sz) (gQi n0 D cA sz (fun z M1 => M = M1 ∧ (z = 0))) 0 0 (fun q => n0 ≤ q) := by
  refine gMet_of [gA n0 1, gJ a] (by decide) (Nat.le_of_ble_eq_true rfl) ?_
  intro p e s m args below meth cd X hr hm
  have X : gCx p s m args meth cd n0 D cA "ParishUnion$Union" cX9_boundTo 4 := X
  show G p l e ({ frames := 0, cells := 0, slots := 0, locals := 0 } : Room) s m args below meth cd n0 D cA 4 (MQ below (gQi n0 D cA sz (fun z M1 => M = M1 ∧ (z = 0))) args s 0 0 (fun q => n0 ≤ q)) 0 0 M sz 0 [(0, gA n0 1), (1, gJ a)] []
  refine g_iconst (n := 1) X dX9_boundTo_0 rfl ?_
  refine g_istore_n (n := 2) (L' := [(2, gJ 0), (0, gA n0 1), (1, gJ a)]) X dX9_boundTo_1 rfl (by decide) rfl rfl ?_
  refine g_iconst (n := 3) X dX9_boundTo_2 rfl ?_
  refine g_istore_n (n := 4) (L' := [(3, gJ 0), (2, gJ 0), (0, gA n0 1), (1, gJ a)]) X dX9_boundTo_3 rfl (by decide) rfl rfl ?_
  refine g_iload_n (n := 5) X 0 dX9_boundTo_4 rfl rfl rfl ?_
  refine g_aload_n (n := 6) X 2 dX9_boundTo_5 rfl rfl rfl ?_
  refine gg_9_10 (n := 9) (z := 0) X (by omega) (by omega) lay_1 kw_2_126 dX9_boundTo_6 rfl f_1_10 ?_
  refine g_icmp_ge (n := 12) (tgt := 34) X dX9_boundTo_9 (by decide) (by omega) (by omega) rfl (fun c1 => ?_) (fun c1 => by exfalso; omega)
  refine g_iload_n (n := 35) X 1 dX9_boundTo_34 rfl rfl rfl ?_
  exact g_ireturn X hr dX9_boundTo_35 (by exact ⟨rfl, by omega⟩)
theorem dX11_count_0 : decode cX11_count 0 = .ok (.iload_n 1, 1) := by decide +kernel
theorem dX11_count_1 : decode cX11_count 1 = .ok (.tableswitch 204 0 13 #[71, 79, 87, 95, 103, 114, 122, 130, 140, 150, 160, 171, 182, 193], 71) := by decide +kernel
theorem dX11_count_72 : decode cX11_count 72 = .ok (.aload_n 0, 1) := by decide +kernel
theorem dX11_count_73 : decode cX11_count 73 = .ok (.getfield 10, 3) := by decide +kernel
theorem dX11_count_76 : decode cX11_count 76 = .ok (.getfield 98, 3) := by decide +kernel
theorem dX11_count_79 : decode cX11_count 79 = .ok (.ireturn, 1) := by decide +kernel
theorem dX11_count_80 : decode cX11_count 80 = .ok (.aload_n 0, 1) := by decide +kernel
theorem dX11_count_81 : decode cX11_count 81 = .ok (.getfield 10, 3) := by decide +kernel
theorem dX11_count_84 : decode cX11_count 84 = .ok (.getfield 423, 3) := by decide +kernel
theorem dX11_count_87 : decode cX11_count 87 = .ok (.ireturn, 1) := by decide +kernel
theorem dX11_count_88 : decode cX11_count 88 = .ok (.aload_n 0, 1) := by decide +kernel
theorem dX11_count_89 : decode cX11_count 89 = .ok (.getfield 10, 3) := by decide +kernel
theorem dX11_count_92 : decode cX11_count 92 = .ok (.getfield 152, 3) := by decide +kernel
theorem dX11_count_95 : decode cX11_count 95 = .ok (.ireturn, 1) := by decide +kernel
theorem dX11_count_96 : decode cX11_count 96 = .ok (.aload_n 0, 1) := by decide +kernel
theorem dX11_count_97 : decode cX11_count 97 = .ok (.getfield 10, 3) := by decide +kernel
theorem dX11_count_100 : decode cX11_count 100 = .ok (.getfield 219, 3) := by decide +kernel
theorem kw_2_135 : (Jvm.Cond.fieldLink "ParishUnion" (219 : Nat) "ParishUnion$Union" "actCount" "I") ∈ gT := gT_of (tb_2 _ (List.mem_of_getElem? (i := 135) rfl)) rfl
theorem dX11_count_103 : decode cX11_count 103 = .ok (.ireturn, 1) := by decide +kernel
theorem dX11_count_104 : decode cX11_count 104 = .ok (.aload_n 0, 1) := by decide +kernel
theorem dX11_count_105 : decode cX11_count 105 = .ok (.getfield 10, 3) := by decide +kernel
theorem dX11_count_108 : decode cX11_count 108 = .ok (.getfield 247, 3) := by decide +kernel
theorem dX11_count_111 : decode cX11_count 111 = .ok (.getfield 251, 3) := by decide +kernel
theorem dX11_count_114 : decode cX11_count 114 = .ok (.ireturn, 1) := by decide +kernel
theorem dX11_count_115 : decode cX11_count 115 = .ok (.aload_n 0, 1) := by decide +kernel
theorem dX11_count_116 : decode cX11_count 116 = .ok (.getfield 10, 3) := by decide +kernel
theorem dX11_count_119 : decode cX11_count 119 = .ok (.getfield 85, 3) := by decide +kernel
theorem dX11_count_122 : decode cX11_count 122 = .ok (.ireturn, 1) := by decide +kernel
theorem dX11_count_123 : decode cX11_count 123 = .ok (.aload_n 0, 1) := by decide +kernel
theorem dX11_count_124 : decode cX11_count 124 = .ok (.getfield 10, 3) := by decide +kernel
theorem dX11_count_127 : decode cX11_count 127 = .ok (.getfield 212, 3) := by decide +kernel
theorem kw_2_137 : (Jvm.Cond.fieldLink "ParishUnion" (212 : Nat) "ParishUnion$Union" "tapeSize" "I") ∈ gT := gT_of (tb_2 _ (List.mem_of_getElem? (i := 137) rfl)) rfl
theorem dX11_count_130 : decode cX11_count 130 = .ok (.ireturn, 1) := by decide +kernel
theorem dX11_count_131 : decode cX11_count 131 = .ok (.aload_n 0, 1) := by decide +kernel
theorem dX11_count_132 : decode cX11_count 132 = .ok (.getfield 10, 3) := by decide +kernel
theorem dX11_count_135 : decode cX11_count 135 = .ok (.bipush 6, 2) := by decide +kernel
theorem dX11_count_137 : decode cX11_count 137 = .ok (.invokevirtual 426, 3) := by decide +kernel
theorem kw_6_17 : (Jvm.Cond.methodLink "ParishUnion" (426 : Nat) ({ cls := "ParishUnion$Union", name := "personsAt", desc := "(I)I" } : Jvm.MethodName)) ∈ gT := gT_of (tb_6 _ (List.mem_of_getElem? (i := 17) rfl)) rfl
theorem kw_6_20 : (Jvm.Cond.code ({ cls := "ParishUnion$Union", name := "personsAt", desc := "(I)I" } : Jvm.MethodName) prog_11_method_7_code (4 : Nat) (Option.some Jvm.ClassFile.FieldType.int)) ∈ gT := gT_of (tb_6 _ (List.mem_of_getElem? (i := 20) rfl)) rfl
theorem okX9_personsAt : gQok yX9_personsAt cX9_personsAt 4 (Option.some Jvm.ClassFile.FieldType.int) 1 := ⟨kw_6_20, kw_1_2, by decide +kernel, by decide +kernel, by decide +kernel⟩
theorem kw_6_18 : (Jvm.Cond.instanceMethod ({ cls := "ParishUnion$Union", name := "personsAt", desc := "(I)I" } : Jvm.MethodName)) ∈ gT := gT_of (tb_6 _ (List.mem_of_getElem? (i := 18) rfl)) rfl
theorem kw_6_19 : (Jvm.Cond.selects "ParishUnion$Union" ({ cls := "ParishUnion$Union", name := "personsAt", desc := "(I)I" } : Jvm.MethodName) ({ cls := "ParishUnion$Union", name := "personsAt", desc := "(I)I" } : Jvm.MethodName)) ∈ gT := gT_of (tb_6 _ (List.mem_of_getElem? (i := 19) rfl)) rfl
theorem dX11_count_140 : decode cX11_count 140 = .ok (.ireturn, 1) := by decide +kernel
theorem dX11_count_141 : decode cX11_count 141 = .ok (.aload_n 0, 1) := by decide +kernel
theorem dX11_count_142 : decode cX11_count 142 = .ok (.getfield 10, 3) := by decide +kernel
theorem dX11_count_145 : decode cX11_count 145 = .ok (.bipush 8, 2) := by decide +kernel
theorem dX11_count_147 : decode cX11_count 147 = .ok (.invokevirtual 426, 3) := by decide +kernel
theorem dX11_count_150 : decode cX11_count 150 = .ok (.ireturn, 1) := by decide +kernel
theorem dX11_count_151 : decode cX11_count 151 = .ok (.aload_n 0, 1) := by decide +kernel
theorem dX11_count_152 : decode cX11_count 152 = .ok (.getfield 10, 3) := by decide +kernel
theorem dX11_count_155 : decode cX11_count 155 = .ok (.bipush 7, 2) := by decide +kernel
theorem dX11_count_157 : decode cX11_count 157 = .ok (.invokevirtual 426, 3) := by decide +kernel
theorem dX11_count_160 : decode cX11_count 160 = .ok (.ireturn, 1) := by decide +kernel
theorem dX11_count_161 : decode cX11_count 161 = .ok (.aload_n 0, 1) := by decide +kernel
theorem dX11_count_162 : decode cX11_count 162 = .ok (.getfield 10, 3) := by decide +kernel
theorem dX11_count_165 : decode cX11_count 165 = .ok (.getfield 336, 3) := by decide +kernel
theorem kw_2_123 : (Jvm.Cond.fieldLink "ParishUnion" (336 : Nat) "ParishUnion$Union" "vagrants" "LParishUnion$Vagrants;") ∈ gT := gT_of (tb_2 _ (List.mem_of_getElem? (i := 123) rfl)) rfl
theorem dX11_count_168 : decode cX11_count 168 = .ok (.getfield 340, 3) := by decide +kernel
theorem kw_1_160 : (Jvm.Cond.fieldLink "ParishUnion" (340 : Nat) "ParishUnion$Vagrants" "count" "I") ∈ gT := gT_of (tb_1 _ (List.mem_of_getElem? (i := 160) rfl)) rfl
theorem dX11_count_171 : decode cX11_count 171 = .ok (.ireturn, 1) := by decide +kernel
theorem dX11_count_172 : decode cX11_count 172 = .ok (.aload_n 0, 1) := by decide +kernel
theorem dX11_count_173 : decode cX11_count 173 = .ok (.getfield 10, 3) := by decide +kernel
theorem dX11_count_176 : decode cX11_count 176 = .ok (.getfield 279, 3) := by decide +kernel
theorem dX11_count_179 : decode cX11_count 179 = .ok (.getfield 367, 3) := by decide +kernel
theorem kw_1_108 : (Jvm.Cond.fieldLink "ParishUnion" (367 : Nat) "ParishUnion$House" "choices" "I") ∈ gT := gT_of (tb_1 _ (List.mem_of_getElem? (i := 108) rfl)) rfl
theorem dX11_count_182 : decode cX11_count 182 = .ok (.ireturn, 1) := by decide +kernel
theorem dX11_count_183 : decode cX11_count 183 = .ok (.aload_n 0, 1) := by decide +kernel
theorem dX11_count_184 : decode cX11_count 184 = .ok (.getfield 10, 3) := by decide +kernel
theorem dX11_count_187 : decode cX11_count 187 = .ok (.getfield 279, 3) := by decide +kernel
theorem dX11_count_190 : decode cX11_count 190 = .ok (.getfield 282, 3) := by decide +kernel
theorem dX11_count_193 : decode cX11_count 193 = .ok (.ireturn, 1) := by decide +kernel
theorem dX11_count_194 : decode cX11_count 194 = .ok (.aload_n 0, 1) := by decide +kernel
theorem dX11_count_195 : decode cX11_count 195 = .ok (.getfield 10, 3) := by decide +kernel
theorem dX11_count_198 : decode cX11_count 198 = .ok (.getfield 279, 3) := by decide +kernel
theorem dX11_count_201 : decode cX11_count 201 = .ok (.getfield 288, 3) := by decide +kernel
theorem dX11_count_204 : decode cX11_count 204 = .ok (.ireturn, 1) := by decide +kernel
theorem dX11_count_205 : decode cX11_count 205 = .ok (.iconst (-1), 1) := by decide +kernel
theorem dX11_count_206 : decode cX11_count 206 = .ok (.ireturn, 1) := by decide +kernel
set_option maxRecDepth 100000 in
set_option maxHeartbeats 4000000 in
theorem c_X11_count {l : Launch} {n0 : Nat} {D : va_G} {cA : Nat → ClassId} {M : gM} (a : Int) (r_a : -2147483648 ≤ a ∧ a ≤ 2147483647) {sz : Nat} (hsz : 206 ≤ sz) (f_0_0 : M 0 0 = 2) (f_1_10 : M 1 10 = 0) (f_1_11 : M 1 11 = 0) (f_1_12 : M 1 12 = 0) (f_1_13 : M 1 13 = 0) (f_1_5 : M 1 5 = 10) (f_9_5 : M 9 5 = 0) (f_1_15 : M 1 15 = 0) (f_1_14 : M 1 14 = 0) (f_1_8 : M 1 8 = 27) (f_26_3 : M 26 3 = 0) (f_1_6 : M 1 6 = 16) (f_15_7 : M 15 7 = 0) (f_15_8 : M 15 8 = 0) (f_15_9 : M 15 9 = 1) : Met l yX11_count (gWsOf yX11_count cX11_count 2 (Option.some Jvm.ClassFile.FieldType.int)) { frames := 1, cells := 0, slots := 0, locals := 23 } (gPc n0 D cA [gA n0 0, gJ a] M sz) (gQi n0 D cA sz (fun z M1 => ((0 ≤ a → a ≤ 12 → z = 0) ∧ (a = 13 → z = 1) ∧ (¬(0 ≤ a ∧ a ≤ 13) → z = -1)) ∧ ∀ a : Int, M1 a = M a)) 0 0 (fun q => n0 ≤ q) := by
  refine gMet_of [gA n0 0, gJ a] (by decide) (Nat.le_of_ble_eq_true rfl) ?_
  intro p e s m args below meth cd X hr hm
  have X : gCx p s m args meth cd n0 D cA "ParishUnion" cX11_count 2 := X
  show G p l e ({ frames := 1, cells := 0, slots := 0, locals := 23 } : Room) s m args below meth cd n0 D cA 2 (MQ below (gQi n0 D cA sz (fun z M1 => ((0 ≤ a → a ≤ 12 → z = 0) ∧ (a = 13 → z = 1) ∧ (¬(0 ≤ a ∧ a ≤ 13) → z = -1)) ∧ ∀ a : Int, M1 a = M a)) args s 0 0 (fun q => n0 ≤ q)) 0 0 M sz 0 [(0, gA n0 0), (1, gJ a)] []
  refine g_iload_n (n := 1) X 1 dX11_count_0 rfl rfl rfl ?_
  by_cases c1 : a = 0
  · refine g_tableIn (tgt := 72) X 0 dX11_count_1 (by omega) (by omega) (by omega) (by omega) rfl (by decide) ?_
    refine g_aload_n (n := 73) X 0 dX11_count_72 rfl rfl rfl ?_
    refine gg_11_0 (n := 76) (z := 1) X (by omega) (by omega) lay_0 kw_2_231 dX11_count_73 rfl f_0_0 (by omega) ?_
    refine gg_9_10 (n := 79) (z := 0) X (by omega) (by omega) lay_1 kw_2_127 dX11_count_76 rfl f_1_10 ?_
    exact g_ireturn X hr dX11_count_79 (by exact ⟨by omega, fun a  => rfl⟩)
  by_cases c2 : a = 1
  · refine g_tableIn (tgt := 80) X 1 dX11_count_1 (by omega) (by omega) (by omega) (by omega) rfl (by decide) ?_
    refine g_aload_n (n := 81) X 0 dX11_count_80 rfl rfl rfl ?_
    refine gg_11_0 (n := 84) (z := 1) X (by omega) (by omega) lay_0 kw_2_231 dX11_count_81 rfl f_0_0 (by omega) ?_
    refine gg_9_11 (n := 87) (z := 0) X (by omega) (by omega) lay_1 kw_2_130 dX11_count_84 rfl f_1_11 ?_
    exact g_ireturn X hr dX11_count_87 (by exact ⟨by omega, fun a  => rfl⟩)
  by_cases c3 : a = 2
  · refine g_tableIn (tgt := 88) X 2 dX11_count_1 (by omega) (by omega) (by omega) (by omega) rfl (by decide) ?_
    refine g_aload_n (n := 89) X 0 dX11_count_88 rfl rfl rfl ?_
    refine gg_11_0 (n := 92) (z := 1) X (by omega) (by omega) lay_0 kw_2_231 dX11_count_89 rfl f_0_0 (by omega) ?_
    refine gg_9_12 (n := 95) (z := 0) X (by omega) (by omega) lay_1 kw_2_133 dX11_count_92 rfl f_1_12 ?_
    exact g_ireturn X hr dX11_count_95 (by exact ⟨by omega, fun a  => rfl⟩)
  by_cases c4 : a = 3
  · refine g_tableIn (tgt := 96) X 3 dX11_count_1 (by omega) (by omega) (by omega) (by omega) rfl (by decide) ?_
    refine g_aload_n (n := 97) X 0 dX11_count_96 rfl rfl rfl ?_
    refine gg_11_0 (n := 100) (z := 1) X (by omega) (by omega) lay_0 kw_2_231 dX11_count_97 rfl f_0_0 (by omega) ?_
    refine gg_9_13 (n := 103) (z := 0) X (by omega) (by omega) lay_1 kw_2_135 dX11_count_100 rfl f_1_13 ?_
    exact g_ireturn X hr dX11_count_103 (by exact ⟨by omega, fun a  => rfl⟩)
  by_cases c5 : a = 4
  · refine g_tableIn (tgt := 104) X 4 dX11_count_1 (by omega) (by omega) (by omega) (by omega) rfl (by decide) ?_
    refine g_aload_n (n := 105) X 0 dX11_count_104 rfl rfl rfl ?_
    refine gg_11_0 (n := 108) (z := 1) X (by omega) (by omega) lay_0 kw_2_231 dX11_count_105 rfl f_0_0 (by omega) ?_
    refine gg_9_5 (n := 111) (z := 9) X (by omega) (by omega) lay_1 kw_2_117 dX11_count_108 rfl f_1_5 (by omega) ?_
    refine gg_4_5 (n := 114) (z := 0) X (by omega) (by omega) lay_9 kw_1_73 dX11_count_111 rfl f_9_5 ?_
    exact g_ireturn X hr dX11_count_114 (by exact ⟨by omega, fun a  => rfl⟩)
  by_cases c6 : a = 5
  · refine g_tableIn (tgt := 115) X 5 dX11_count_1 (by omega) (by omega) (by omega) (by omega) rfl (by decide) ?_
    refine g_aload_n (n := 116) X 0 dX11_count_115 rfl rfl rfl ?_
    refine gg_11_0 (n := 119) (z := 1) X (by omega) (by omega) lay_0 kw_2_231 dX11_count_116 rfl f_0_0 (by omega) ?_
    refine gg_9_15 (n := 122) (z := 0) X (by omega) (by omega) lay_1 kw_2_139 dX11_count_119 rfl f_1_15 ?_
    exact g_ireturn X hr dX11_count_122 (by exact ⟨by omega, fun a  => rfl⟩)
  by_cases c7 : a = 6
  · refine g_tableIn (tgt := 123) X 6 dX11_count_1 (by omega) (by omega) (by omega) (by omega) rfl (by decide) ?_
    refine g_aload_n (n := 124) X 0 dX11_count_123 rfl rfl rfl ?_
    refine gg_11_0 (n := 127) (z := 1) X (by omega) (by omega) lay_0 kw_2_231 dX11_count_124 rfl f_0_0 (by omega) ?_
    refine gg_9_14 (n := 130) (z := 0) X (by omega) (by omega) lay_1 kw_2_137 dX11_count_127 rfl f_1_14 ?_
    exact g_ireturn X hr dX11_count_130 (by exact ⟨by omega, fun a  => rfl⟩)
  by_cases c8 : a = 7
  · refine g_tableIn (tgt := 131) X 7 dX11_count_1 (by omega) (by omega) (by omega) (by omega) rfl (by decide) ?_
    refine g_aload_n (n := 132) X 0 dX11_count_131 rfl rfl rfl ?_
    refine gg_11_0 (n := 135) (z := 1) X (by omega) (by omega) lay_0 kw_2_231 dX11_count_132 rfl f_0_0 (by omega) ?_
    refine g_bipush (n := 137) X dX11_count_135 (by decide +kernel) rfl ?_
    refine g_callVi (n := 140) (As := [gJ 6]) (rest := []) (cs1 := 0) (ss1 := 0) X (c_X9_personsAt 6 (by omega) (by omega) f_1_10) okX9_personsAt kw_6_17 ⟨kw_6_18, kw_6_19⟩ ⟨rfl, rfl⟩ ⟨Nat.le_of_ble_eq_true rfl, Nat.le_of_ble_eq_true rfl⟩ rfl (by omega) (by omega) lay_1 rfl rfl (Nat.le_of_ble_eq_true rfl) ⟨Nat.le_of_ble_eq_true rfl, Nat.le_of_ble_eq_true rfl⟩ rfl rfl dX11_count_137 rfl (fun z9 M10 P11 => ?_)
    obtain ⟨rfl, rfl⟩ := P11
    exact g_ireturn X hr dX11_count_140 (by exact ⟨by omega, fun a  => rfl⟩)
  by_cases c12 : a = 8
  · refine g_tableIn (tgt := 141) X 8 dX11_count_1 (by omega) (by omega) (by omega) (by omega) rfl (by decide) ?_
    refine g_aload_n (n := 142) X 0 dX11_count_141 rfl rfl rfl ?_
    refine gg_11_0 (n := 145) (z := 1) X (by omega) (by omega) lay_0 kw_2_231 dX11_count_142 rfl f_0_0 (by omega) ?_
    refine g_bipush (n := 147) X dX11_count_145 (by decide +kernel) rfl ?_
    refine g_callVi (n := 150) (As := [gJ 8]) (rest := []) (cs1 := 0) (ss1 := 0) X (c_X9_personsAt 8 (by omega) (by omega) f_1_10) okX9_personsAt kw_6_17 ⟨kw_6_18, kw_6_19⟩ ⟨rfl, rfl⟩ ⟨Nat.le_of_ble_eq_true rfl, Nat.le_of_ble_eq_true rfl⟩ rfl (by omega) (by omega) lay_1 rfl rfl (Nat.le_of_ble_eq_true rfl) ⟨Nat.le_of_ble_eq_true rfl, Nat.le_of_ble_eq_true rfl⟩ rfl rfl dX11_count_147 rfl (fun z13 M14 P15 => ?_)
    obtain ⟨rfl, rfl⟩ := P15
    exact g_ireturn X hr dX11_count_150 (by exact ⟨by omega, fun a  => rfl⟩)
  by_cases c16 : a = 9
  · refine g_tableIn (tgt := 151) X 9 dX11_count_1 (by omega) (by omega) (by omega) (by omega) rfl (by decide) ?_
    refine g_aload_n (n := 152) X 0 dX11_count_151 rfl rfl rfl ?_
    refine gg_11_0 (n := 155) (z := 1) X (by omega) (by omega) lay_0 kw_2_231 dX11_count_152 rfl f_0_0 (by omega) ?_
    refine g_bipush (n := 157) X dX11_count_155 (by decide +kernel) rfl ?_
    refine g_callVi (n := 160) (As := [gJ 7]) (rest := []) (cs1 := 0) (ss1 := 0) X (c_X9_personsAt 7 (by omega) (by omega) f_1_10) okX9_personsAt kw_6_17 ⟨kw_6_18, kw_6_19⟩ ⟨rfl, rfl⟩ ⟨Nat.le_of_ble_eq_true rfl, Nat.le_of_ble_eq_true rfl⟩ rfl (by omega) (by omega) lay_1 rfl rfl (Nat.le_of_ble_eq_true rfl) ⟨Nat.le_of_ble_eq_true rfl, Nat.le_of_ble_eq_true rfl⟩ rfl rfl dX11_count_157 rfl (fun z17 M18 P19 => ?_)
    obtain ⟨rfl, rfl⟩ := P19
    exact g_ireturn X hr dX11_count_160 (by exact ⟨by omega, fun a  => rfl⟩)
  by_cases c20 : a = 10
  · refine g_tableIn (tgt := 161) X 10 dX11_count_1 (by omega) (by omega) (by omega) (by omega) rfl (by decide) ?_
    refine g_aload_n (n := 162) X 0 dX11_count_161 rfl rfl rfl ?_
    refine gg_11_0 (n := 165) (z := 1) X (by omega) (by omega) lay_0 kw_2_231 dX11_count_162 rfl f_0_0 (by omega) ?_
    refine gg_9_8 (n := 168) (z := 26) X (by omega) (by omega) lay_1 kw_2_123 dX11_count_165 rfl f_1_8 (by omega) ?_
    refine gg_10_3 (n := 171) (z := 0) X (by omega) (by omega) lay_26 kw_1_160 dX11_count_168 rfl f_26_3 ?_
    exact g_ireturn X hr dX11_count_171 (by exact ⟨by omega, fun a  => rfl⟩)
  by_cases c21 : a = 11
  · refine g_tableIn (tgt := 172) X 11 dX11_count_1 (by omega) (by omega) (by omega) (by omega) rfl (by decide) ?_
    refine g_aload_n (n := 173) X 0 dX11_count_172 rfl rfl rfl ?_
    refine gg_11_0 (n := 176) (z := 1) X (by omega) (by omega) lay_0 kw_2_231 dX11_count_173 rfl f_0_0 (by omega) ?_
    refine gg_9_6 (n := 179) (z := 15) X (by omega) (by omega) lay_1 kw_2_119 dX11_count_176 rfl f_1_6 (by omega) ?_
    refine gg_2_7 (n := 182) (z := 0) X (by omega) (by omega) lay_15 kw_1_108 dX11_count_179 rfl f_15_7 ?_
    exact g_ireturn X hr dX11_count_182 (by exact ⟨by omega, fun a  => rfl⟩)
  by_cases c22 : a = 12
  · refine g_tableIn (tgt := 183) X 12 dX11_count_1 (by omega) (by omega) (by omega) (by omega) rfl (by decide) ?_
    refine g_aload_n (n := 184) X 0 dX11_count_183 rfl rfl rfl ?_
    refine gg_11_0 (n := 187) (z := 1) X (by omega) (by omega) lay_0 kw_2_231 dX11_count_184 rfl f_0_0 (by omega) ?_
    refine gg_9_6 (n := 190) (z := 15) X (by omega) (by omega) lay_1 kw_2_119 dX11_count_187 rfl f_1_6 (by omega) ?_
    refine gg_2_8 (n := 193) (z := 0) X (by omega) (by omega) lay_15 kw_1_111 dX11_count_190 rfl f_15_8 ?_
    exact g_ireturn X hr dX11_count_193 (by exact ⟨by omega, fun a  => rfl⟩)
  by_cases c23 : a = 13
  · refine g_tableIn (tgt := 194) X 13 dX11_count_1 (by omega) (by omega) (by omega) (by omega) rfl (by decide) ?_
    refine g_aload_n (n := 195) X 0 dX11_count_194 rfl rfl rfl ?_
    refine gg_11_0 (n := 198) (z := 1) X (by omega) (by omega) lay_0 kw_2_231 dX11_count_195 rfl f_0_0 (by omega) ?_
    refine gg_9_6 (n := 201) (z := 15) X (by omega) (by omega) lay_1 kw_2_119 dX11_count_198 rfl f_1_6 (by omega) ?_
    refine gg_2_9 (n := 204) (z := 1) X (by omega) (by omega) lay_15 kw_1_114 dX11_count_201 rfl f_15_9 ?_
    exact g_ireturn X hr dX11_count_204 (by exact ⟨by omega, fun a  => rfl⟩)
  refine g_tableOut (tgt := 205) X dX11_count_1 (by omega) (by omega) (by decide) ?_
  refine g_iconst (n := 206) X dX11_count_205 rfl ?_
  exact g_ireturn X hr dX11_count_206 (by exact ⟨by omega, fun a  => rfl⟩)
theorem dX11_master_0 : decode cX11_master 0 = .ok (.iload_n 1, 1) := by decide +kernel
theorem dX11_master_1 : decode cX11_master 1 = .ok (.iconst 0, 1) := by decide +kernel
theorem dX11_master_2 : decode cX11_master 2 = .ok (.iconst 3, 1) := by decide +kernel
theorem dX11_master_3 : decode cX11_master 3 = .ok (.invokestatic 62, 3) := by decide +kernel
theorem dX11_master_6 : decode cX11_master 6 = .ok (.ifCond .ne 5, 3) := by decide +kernel
theorem dX11_master_11 : decode cX11_master 11 = .ok (.iload_n 2, 1) := by decide +kernel
theorem dX11_master_12 : decode cX11_master 12 = .ok (.iconst 0, 1) := by decide +kernel
theorem dX11_master_13 : decode cX11_master 13 = .ok (.bipush 9, 2) := by decide +kernel
theorem dX11_master_15 : decode cX11_master 15 = .ok (.invokestatic 62, 3) := by decide +kernel
theorem dX11_master_18 : decode cX11_master 18 = .ok (.ifCond .eq 15, 3) := by decide +kernel
theorem dX11_master_33 : decode cX11_master 33 = .ok (.bipush (-2), 2) := by decide +kernel
theorem dX11_master_35 : decode cX11_master 35 = .ok (.ireturn, 1) := by decide +kernel
theorem dX11_master_21 : decode cX11_master 21 = .ok (.iload_n 2, 1) := by decide +kernel
theorem dX11_master_22 : decode cX11_master 22 = .ok (.aload_n 0, 1) := by decide +kernel
theorem dX11_master_23 : decode cX11_master 23 = .ok (.getfield 10, 3) := by decide +kernel
theorem dX11_master_26 : decode cX11_master 26 = .ok (.iload_n 1, 1) := by decide +kernel
theorem dX11_master_27 : decode cX11_master 27 = .ok (.invokevirtual 355, 3) := by decide +kernel
theorem kw_5_113 : (Jvm.Cond.methodLink "ParishUnion" (355 : Nat) ({ cls := "ParishUnion$Union", name := "boundTo", desc := "(I)I" } : Jvm.MethodName)) ∈ gT := gT_of (tb_5 _ (List.mem_of_getElem? (i := 113) rfl)) rfl
theorem kw_5_116 : (Jvm.Cond.code ({ cls := "ParishUnion$Union", name := "boundTo", desc := "(I)I" } : Jvm.MethodName) prog_11_method_8_code (4 : Nat) (Option.some Jvm.ClassFile.FieldType.int)) ∈ gT := gT_of (tb_5 _ (List.mem_of_getElem? (i := 116) rfl)) rfl
theorem okX9_boundTo : gQok yX9_boundTo cX9_boundTo 4 (Option.some Jvm.ClassFile.FieldType.int) 1 := ⟨kw_5_116, kw_1_2, by decide +kernel, by decide +kernel, by decide +kernel⟩
theorem kw_5_114 : (Jvm.Cond.instanceMethod ({ cls := "ParishUnion$Union", name := "boundTo", desc := "(I)I" } : Jvm.MethodName)) ∈ gT := gT_of (tb_5 _ (List.mem_of_getElem? (i := 114) rfl)) rfl
theorem kw_5_115 : (Jvm.Cond.selects "ParishUnion$Union" ({ cls := "ParishUnion$Union", name := "boundTo", desc := "(I)I" } : Jvm.MethodName) ({ cls := "ParishUnion$Union", name := "boundTo", desc := "(I)I" } : Jvm.MethodName)) ∈ gT := gT_of (tb_5 _ (List.mem_of_getElem? (i := 115) rfl)) rfl
theorem dX11_master_30 : decode cX11_master 30 = .ok (.if_icmp .ge 6, 3) := by decide +kernel
theorem dX11_master_36 : decode cX11_master 36 = .ok (.aload_n 0, 1) := by decide +kernel
theorem dX11_master_37 : decode cX11_master 37 = .ok (.getfield 10, 3) := by decide +kernel
theorem dX11_master_40 : decode cX11_master 40 = .ok (.getfield 358, 3) := by decide +kernel
theorem kw_2_125 : (Jvm.Cond.fieldLink "ParishUnion" (358 : Nat) "ParishUnion$Union" "rooms" "[I") ∈ gT := gT_of (tb_2 _ (List.mem_of_getElem? (i := 125) rfl)) rfl
theorem dX11_master_43 : decode cX11_master 43 = .ok (.iload_n 1, 1) := by decide +kernel
theorem dX11_master_44 : decode cX11_master 44 = .ok (.iaload, 1) := by decide +kernel
theorem dX11_master_45 : decode cX11_master 45 = .ok (.istore_n 3, 1) := by decide +kernel
theorem dX11_master_46 : decode cX11_master 46 = .ok (.aload_n 0, 1) := by decide +kernel
theorem dX11_master_47 : decode cX11_master 47 = .ok (.getfield 10, 3) := by decide +kernel
theorem dX11_master_50 : decode cX11_master 50 = .ok (.getfield 358, 3) := by decide +kernel
theorem dX11_master_53 : decode cX11_master 53 = .ok (.iload_n 1, 1) := by decide +kernel
theorem dX11_master_54 : decode cX11_master 54 = .ok (.iload_n 2, 1) := by decide +kernel
theorem dX11_master_55 : decode cX11_master 55 = .ok (.iastore, 1) := by decide +kernel
theorem dX11_master_56 : decode cX11_master 56 = .ok (.iload_n 3, 1) := by decide +kernel
theorem dX11_master_57 : decode cX11_master 57 = .ok (.ireturn, 1) := by decide +kernel
theorem dX11_master_9 : decode cX11_master 9 = .ok (.iconst (-1), 1) := by decide +kernel
theorem dX11_master_10 : decode cX11_master 10 = .ok (.ireturn, 1) := by decide +kernel
set_option maxRecDepth 100000 in
set_option maxHeartbeats 4000000 in
theorem c_X11_master {l : Launch} {n0 : Nat} {D : va_G} {cA : Nat → ClassId} {M : gM} (a b : Int) (r_a : -2147483648 ≤ a ∧ a ≤ 2147483647) (r_b : -2147483648 ≤ b ∧ b ≤ 2147483647) {sz : Nat} (hsz : 206 ≤ sz) (f_0_0 : M 0 0 = 2) (f_1_10 : M 1 10 = 0) (f_1_9 : M 1 9 = 31) (rooms0 : ∀ i : Int, 0 ≤ i → i < 4 → M 30 i = 0) : Met l yX11_master (gWsOf yX11_master cX11_master 4 (Option.some Jvm.ClassFile.FieldType.int)) { frames := 1, cells := 0, slots := 0, locals := 23 } (gPc n0 D cA [gA n0 0, gJ a, gJ b] M sz) (gQi n0 D cA sz (fun z M1 => (((¬(0 ≤ a ∧ a ≤ 3)) → z = -1) ∧ (¬(¬(0 ≤ a ∧ a ≤ 3)) → (¬(0 ≤ b ∧ b ≤ 9)) → z = -2) ∧ (¬(¬(0 ≤ a ∧ a ≤ 3)) → ¬(¬(0 ≤ b ∧ b ≤ 9)) → (z = 0))) ∧ ∀ a : Int, a ≠ 30 → M1 a = M a)) 0 0 (fun q => n0 ≤ q) := by
  refine gMet_of [gA n0 0, gJ a, gJ b] (by decide) (Nat.le_of_ble_eq_true rfl) ?_
  intro p e s m args below meth cd X hr hm
  have X : gCx p s m args meth cd n0 D cA "ParishUnion" cX11_master 4 := X
  show G p l e ({ frames := 1, cells := 0, slots := 0, locals := 23 } : Room) s m args below meth cd n0 D cA 4 (MQ below (gQi n0 D cA sz (fun z M1 => (((¬(0 ≤ a ∧ a ≤ 3)) → z = -1) ∧ (¬(¬(0 ≤ a ∧ a ≤ 3)) → (¬(0 ≤ b ∧ b ≤ 9)) → z = -2) ∧ (¬(¬(0 ≤ a ∧ a ≤ 3)) → ¬(¬(0 ≤ b ∧ b ≤ 9)) → (z = 0))) ∧ ∀ a : Int, a ≠ 30 → M1 a = M a)) args s 0 0 (fun q => n0 ≤ q)) 0 0 M sz 0 [(0, gA n0 0), (1, gJ a), (2, gJ b)] []
  refine g_iload_n (n := 1) X 1 dX11_master_0 rfl rfl rfl ?_
  refine g_iconst (n := 2) X dX11_master_1 rfl ?_
  refine g_iconst (n := 3) X dX11_master_2 rfl ?_
  refine g_callSi (n := 6) (As := [gJ a, gJ 0, gJ 3]) (rest := []) (cs1 := 0) (ss1 := 0) X (c_X11_within a 0 3 (by omega) (by omega) (by omega) (by omega)) okX11_within kw_3_29 kw_3_30 ⟨rfl, rfl⟩ ⟨Nat.le_of_ble_eq_true rfl, Nat.le_of_ble_eq_true rfl⟩ rfl rfl (Nat.le_of_ble_eq_true rfl) ⟨Nat.le_of_ble_eq_true rfl, Nat.le_of_ble_eq_true rfl⟩ rfl rfl dX11_master_3 rfl (fun z1 M2 P3 => ?_)
  obtain ⟨rfl, P3⟩ := P3
  refine g_if_ne (n := 9) (tgt := 11) X dX11_master_6 (by decide) (by omega) rfl (fun c4 => ?_) (fun c4 => ?_)
  · refine g_iload_n (n := 12) X 2 dX11_master_11 rfl rfl rfl ?_
    refine g_iconst (n := 13) X dX11_master_12 rfl ?_
    refine g_bipush (n := 15) X dX11_master_13 (by decide +kernel) rfl ?_
    refine g_callSi (n := 18) (As := [gJ b, gJ 0, gJ 9]) (rest := []) (cs1 := 0) (ss1 := 0) X (c_X11_within b 0 9 (by omega) (by omega) (by omega) (by omega)) okX11_within kw_3_29 kw_3_30 ⟨rfl, rfl⟩ ⟨Nat.le_of_ble_eq_true rfl, Nat.le_of_ble_eq_true rfl⟩ rfl rfl (Nat.le_of_ble_eq_true rfl) ⟨Nat.le_of_ble_eq_true rfl, Nat.le_of_ble_eq_true rfl⟩ rfl rfl dX11_master_15 rfl (fun z5 M6 P7 => ?_)
    obtain ⟨rfl, P7⟩ := P7
    refine g_if_eq (n := 21) (tgt := 33) X dX11_master_18 (by decide) (by omega) rfl (fun c8 => ?_) (fun c8 => ?_)
    · refine g_bipush (n := 35) X dX11_master_33 (by decide +kernel) rfl ?_
      exact g_ireturn X hr dX11_master_35 (by exact ⟨by omega, fun a h0 => rfl⟩)
    · refine g_iload_n (n := 22) X 2 dX11_master_21 rfl rfl rfl ?_
      refine g_aload_n (n := 23) X 0 dX11_master_22 rfl rfl rfl ?_
      refine gg_11_0 (n := 26) (z := 1) X (by omega) (by omega) lay_0 kw_2_231 dX11_master_23 rfl f_0_0 (by omega) ?_
      refine g_iload_n (n := 27) X 1 dX11_master_26 rfl rfl rfl ?_
      refine g_callVi (n := 30) (As := [gJ a]) (rest := [gJ b]) (cs1 := 0) (ss1 := 0) X (c_X9_boundTo a (by omega) (by omega) f_1_10) okX9_boundTo kw_5_113 ⟨kw_5_114, kw_5_115⟩ ⟨rfl, rfl⟩ ⟨Nat.le_of_ble_eq_true rfl, Nat.le_of_ble_eq_true rfl⟩ rfl (by omega) (by omega) lay_1 rfl rfl (Nat.le_of_ble_eq_true rfl) ⟨Nat.le_of_ble_eq_true rfl, Nat.le_of_ble_eq_true rfl⟩ rfl rfl dX11_master_27 rfl (fun z9 M10 P11 => ?_)
      obtain ⟨rfl, rfl⟩ := P11
      refine g_icmp_ge (n := 33) (tgt := 36) X dX11_master_30 (by decide) (by omega) (by omega) rfl (fun c12 => ?_) (fun c12 => ?_)
      · refine g_aload_n (n := 37) X 0 dX11_master_36 rfl rfl rfl ?_
        refine gg_11_0 (n := 40) (z := 1) X (by omega) (by omega) lay_0 kw_2_231 dX11_master_37 rfl f_0_0 (by omega) ?_
        refine gg_9_9 (n := 43) (z := 30) X (by omega) (by omega) lay_1 kw_2_125 dX11_master_40 rfl f_1_9 (by omega) ?_
        refine g_iload_n (n := 44) X 1 dX11_master_43 rfl rfl rfl ?_
        refine g_iald (n := 45) X (by omega) (by omega) lay_30 (by omega) (by omega) (by omega) dX11_master_44 rfl ?_
        rw [show M 30 a = 0 from (rooms0 _ (by omega) (by omega))]
        refine g_istore_n (n := 46) (L' := [(3, gJ 0), (0, gA n0 0), (1, gJ a), (2, gJ b)]) X dX11_master_45 rfl (by decide) rfl rfl ?_
        refine g_aload_n (n := 47) X 1 dX11_master_46 rfl rfl rfl ?_
        refine gg_11_0 (n := 50) (z := 1) X (by omega) (by omega) lay_0 kw_2_231 dX11_master_47 rfl f_0_0 (by omega) ?_
        refine gg_9_9 (n := 53) (z := 30) X (by omega) (by omega) lay_1 kw_2_125 dX11_master_50 rfl f_1_9 (by omega) ?_
        refine g_iload_n (n := 54) X 2 dX11_master_53 rfl rfl rfl ?_
        refine g_iload_n (n := 55) X 3 dX11_master_54 rfl rfl rfl ?_
        refine g_iast (n := 56) X (by omega) (by omega) lay_30 (by omega) (by omega) (by omega) dX11_master_55 rfl ?_
        refine G.nm (fun M13 e14 => ?_)
        refine g_iload_n (n := 57) X 0 dX11_master_56 rfl rfl rfl ?_
        exact g_ireturn X hr dX11_master_57 (by exact ⟨by omega, fun a h0 => ((congrFun e14 a).trans ((gset_off a (by omega)).trans rfl))⟩)
      · refine g_bipush (n := 35) X dX11_master_33 (by decide +kernel) rfl ?_
        exact g_ireturn X hr dX11_master_35 (by exact ⟨by omega, fun a h0 => rfl⟩)
  · refine g_iconst (n := 10) X dX11_master_9 rfl ?_
    exact g_ireturn X hr dX11_master_10 (by exact ⟨by omega, fun a h0 => rfl⟩)
theorem dX10_sleep_0 : decode cX10_sleep 0 = .ok (.aload_n 0, 1) := by decide +kernel
theorem dX10_sleep_1 : decode cX10_sleep 1 = .ok (.getfield 27, 3) := by decide +kernel
theorem kw_1_159 : (Jvm.Cond.fieldLink "ParishUnion$Vagrants" (27 : Nat) "ParishUnion$Vagrants" "count" "I") ∈ gT := gT_of (tb_1 _ (List.mem_of_getElem? (i := 159) rfl)) rfl
theorem dX10_sleep_4 : decode cX10_sleep 4 = .ok (.bipush 40, 2) := by decide +kernel
theorem dX10_sleep_6 : decode cX10_sleep 6 = .ok (.if_icmp .lt 4, 3) := by decide +kernel
theorem dX10_sleep_10 : decode cX10_sleep 10 = .ok (.aload_n 0, 1) := by decide +kernel
theorem dX10_sleep_11 : decode cX10_sleep 11 = .ok (.getfield 27, 3) := by decide +kernel
theorem dX10_sleep_14 : decode cX10_sleep 14 = .ok (.istore 4, 2) := by decide +kernel
theorem dX10_sleep_16 : decode cX10_sleep 16 = .ok (.iload 4, 2) := by decide +kernel
theorem dX10_sleep_18 : decode cX10_sleep 18 = .ok (.ifCond .le 70, 3) := by decide +kernel
theorem dX10_sleep_88 : decode cX10_sleep 88 = .ok (.aload_n 0, 1) := by decide +kernel
theorem dX10_sleep_89 : decode cX10_sleep 89 = .ok (.getfield 9, 3) := by decide +kernel
theorem kw_1_156 : (Jvm.Cond.fieldLink "ParishUnion$Vagrants" (9 : Nat) "ParishUnion$Vagrants" "name" "[I") ∈ gT := gT_of (tb_1 _ (List.mem_of_getElem? (i := 156) rfl)) rfl
theorem dX10_sleep_92 : decode cX10_sleep 92 = .ok (.iload 4, 2) := by decide +kernel
theorem dX10_sleep_94 : decode cX10_sleep 94 = .ok (.iload_n 1, 1) := by decide +kernel
theorem dX10_sleep_95 : decode cX10_sleep 95 = .ok (.iastore, 1) := by decide +kernel
theorem dX10_sleep_96 : decode cX10_sleep 96 = .ok (.aload_n 0, 1) := by decide +kernel
theorem dX10_sleep_97 : decode cX10_sleep 97 = .ok (.getfield 15, 3) := by decide +kernel
theorem kw_1_157 : (Jvm.Cond.fieldLink "ParishUnion$Vagrants" (15 : Nat) "ParishUnion$Vagrants" "parish" "[I") ∈ gT := gT_of (tb_1 _ (List.mem_of_getElem? (i := 157) rfl)) rfl
theorem dX10_sleep_100 : decode cX10_sleep 100 = .ok (.iload 4, 2) := by decide +kernel
theorem dX10_sleep_102 : decode cX10_sleep 102 = .ok (.iload_n 2, 1) := by decide +kernel
theorem dX10_sleep_103 : decode cX10_sleep 103 = .ok (.iastore, 1) := by decide +kernel
theorem dX10_sleep_104 : decode cX10_sleep 104 = .ok (.aload_n 0, 1) := by decide +kernel
theorem dX10_sleep_105 : decode cX10_sleep 105 = .ok (.getfield 18, 3) := by decide +kernel
theorem kw_1_158 : (Jvm.Cond.fieldLink "ParishUnion$Vagrants" (18 : Nat) "ParishUnion$Vagrants" "week" "[I") ∈ gT := gT_of (tb_1 _ (List.mem_of_getElem? (i := 158) rfl)) rfl
theorem dX10_sleep_108 : decode cX10_sleep 108 = .ok (.iload 4, 2) := by decide +kernel
theorem dX10_sleep_110 : decode cX10_sleep 110 = .ok (.iload_n 3, 1) := by decide +kernel
theorem dX10_sleep_111 : decode cX10_sleep 111 = .ok (.iastore, 1) := by decide +kernel
theorem dX10_sleep_112 : decode cX10_sleep 112 = .ok (.aload_n 0, 1) := by decide +kernel
theorem dX10_sleep_113 : decode cX10_sleep 113 = .ok (.dup, 1) := by decide +kernel
theorem dX10_sleep_114 : decode cX10_sleep 114 = .ok (.getfield 27, 3) := by decide +kernel
theorem dX10_sleep_117 : decode cX10_sleep 117 = .ok (.iconst 1, 1) := by decide +kernel
theorem dX10_sleep_118 : decode cX10_sleep 118 = .ok (.iadd, 1) := by decide +kernel
theorem dX10_sleep_119 : decode cX10_sleep 119 = .ok (.putfield 27, 3) := by decide +kernel
theorem dX10_sleep_122 : decode cX10_sleep 122 = .ok (.return_, 1) := by decide +kernel
set_option maxRecDepth 100000 in
set_option maxHeartbeats 4000000 in
theorem c_X10_sleep {l : Launch} {n0 : Nat} {D : va_G} {cA : Nat → ClassId} {M : gM} (a b g : Int) (r_a : -2147483648 ≤ a ∧ a ≤ 2147483647) (r_b : -2147483648 ≤ b ∧ b ≤ 2147483647) (r_g : -2147483648 ≤ g ∧ g ≤ 2147483647) {sz : Nat} (hsz : 206 ≤ sz) (f_26_3 : M 26 3 = 0) (f_26_0 : M 26 0 = 28) (f_26_1 : M 26 1 = 29) (f_26_2 : M 26 2 = 30) : Met l yX10_sleep (gWsOf yX10_sleep cX10_sleep 5 (Option.none : Option Jvm.ClassFile.FieldType)) { frames := 0, cells := 0, slots := 0, locals := 0 } (gPc n0 D cA [gA n0 26, gJ a, gJ b, gJ g] M sz) (gQv n0 D cA sz (fun M1 => M1 26 3 = 1 ∧ ∀ a : Int, a ≠ 26 → a ≠ 27 → a ≠ 28 → a ≠ 29 → M1 a = M a)) 0 0 (fun q => n0 ≤ q) := by
  refine gMet_of [gA n0 26, gJ a, gJ b, gJ g] (by decide) (Nat.le_of_ble_eq_true rfl) ?_
  intro p e s m args below meth cd X hr hm
  have X : gCx p s m args meth cd n0 D cA "ParishUnion$Vagrants" cX10_sleep 5 := X
  show G p l e ({ frames := 0, cells := 0, slots := 0, locals := 0 } : Room) s m args below meth cd n0 D cA 5 (MQ below (gQv n0 D cA sz (fun M1 => M1 26 3 = 1 ∧ ∀ a : Int, a ≠ 26 → a ≠ 27 → a ≠ 28 → a ≠ 29 → M1 a = M a)) args s 0 0 (fun q => n0 ≤ q)) 0 0 M sz 0 [(0, gA n0 26), (1, gJ a), (2, gJ b), (3, gJ g)] []
  refine g_aload_n (n := 1) X 0 dX10_sleep_0 rfl rfl rfl ?_
  refine gg_10_3 (n := 4) (z := 0) X (by omega) (by omega) lay_26 kw_1_159 dX10_sleep_1 rfl f_26_3 ?_
  refine g_bipush (n := 6) X dX10_sleep_4 (by decide +kernel) rfl ?_
  refine g_icmp_lt (n := 9) (tgt := 10) X dX10_sleep_6 (by decide) (by omega) (by omega) rfl (fun c1 => ?_) (fun c1 => by exfalso; omega)
  refine g_aload_n (n := 11) X 0 dX10_sleep_10 rfl rfl rfl ?_
  refine gg_10_3 (n := 14) (z := 0) X (by omega) (by omega) lay_26 kw_1_159 dX10_sleep_11 rfl f_26_3 ?_
  refine g_istore (n := 16) (L' := [(4, gJ 0), (0, gA n0 26), (1, gJ a), (2, gJ b), (3, gJ g)]) X dX10_sleep_14 (by decide) rfl rfl ?_
  refine g_iload (n := 18) X 0 dX10_sleep_16 rfl rfl ?_
  refine g_if_le (n := 21) (tgt := 88) X dX10_sleep_18 (by decide) (by omega) rfl (fun c2 => ?_) (fun c2 => by exfalso; omega)
  refine g_aload_n (n := 89) X 1 dX10_sleep_88 rfl rfl rfl ?_
  refine gg_10_0 (n := 92) (z := 27) X (by omega) (by omega) lay_26 kw_1_156 dX10_sleep_89 rfl f_26_0 (by omega) ?_
  refine g_iload (n := 94) X 0 dX10_sleep_92 rfl rfl ?_
  refine g_iload_n (n := 95) X 2 dX10_sleep_94 rfl rfl rfl ?_
  refine g_iast (n := 96) X (by omega) (by omega) lay_27 (by omega) (by omega) (by omega) dX10_sleep_95 rfl ?_
  refine G.nm (fun M3 e4 => ?_)
  refine g_aload_n (n := 97) X 1 dX10_sleep_96 rfl rfl rfl ?_
  refine gg_10_1 (n := 100) (z := 28) X (by omega) (by omega) lay_26 kw_1_157 dX10_sleep_97 rfl ((congrFun (congrFun e4 _) _).trans ((gset_ne (by omega)).trans f_26_1)) (by omega) ?_
  refine g_iload (n := 102) X 0 dX10_sleep_100 rfl rfl ?_
  refine g_iload_n (n := 103) X 3 dX10_sleep_102 rfl rfl rfl ?_
  refine g_iast (n := 104) X (by omega) (by omega) lay_28 (by omega) (by omega) (by omega) dX10_sleep_103 rfl ?_
  refine G.nm (fun M5 e6 => ?_)
  refine g_aload_n (n := 105) X 1 dX10_sleep_104 rfl rfl rfl ?_
  refine gg_10_2 (n := 108) (z := 29) X (by omega) (by omega) lay_26 kw_1_158 dX10_sleep_105 rfl ((congrFun (congrFun e6 _) _).trans ((gset_ne (by omega)).trans ((congrFun (congrFun e4 _) _).trans ((gset_ne (by omega)).trans f_26_2)))) (by omega) ?_
  refine g_iload (n := 110) X 0 dX10_sleep_108 rfl rfl ?_
  refine g_iload_n (n := 111) X 4 dX10_sleep_110 rfl rfl rfl ?_
  refine g_iast (n := 112) X (by omega) (by omega) lay_29 (by omega) (by omega) (by omega) dX10_sleep_111 rfl ?_
  refine G.nm (fun M7 e8 => ?_)
  refine g_aload_n (n := 113) X 1 dX10_sleep_112 rfl rfl rfl ?_
  refine g_dup (n := 114) X dX10_sleep_113 rfl rfl ?_
  refine gg_10_3 (n := 117) (z := 0) X (by omega) (by omega) lay_26 kw_1_159 dX10_sleep_114 rfl ((congrFun (congrFun e8 _) _).trans ((gset_ne (by omega)).trans ((congrFun (congrFun e6 _) _).trans ((gset_ne (by omega)).trans ((congrFun (congrFun e4 _) _).trans ((gset_ne (by omega)).trans f_26_3)))))) ?_
  refine g_iconst (n := 118) X dX10_sleep_117 rfl ?_
  refine g_iadd (n := 119) (z := 1) X dX10_sleep_118 rfl rfl ?_
  refine gp_10_3 (n := 122) X (by omega) (by omega) lay_26 kw_1_159 dX10_sleep_119 rfl ?_
  refine G.nm (fun M9 e10 => ?_)
  exact g_return X hr dX10_sleep_122 (by exact ⟨(by rw [e10]; exact gset_eq _ _ _ _), fun a h0 h1 h2 h3 => ((congrFun e10 a).trans ((gset_off a (by omega)).trans ((congrFun e8 a).trans ((gset_off a (by omega)).trans ((congrFun e6 a).trans ((gset_off a (by omega)).trans ((congrFun e4 a).trans ((gset_off a (by omega)).trans rfl))))))))⟩)
theorem dX11_night_0 : decode cX11_night 0 = .ok (.iload_n 2, 1) := by decide +kernel
theorem dX11_night_1 : decode cX11_night 1 = .ok (.invokestatic 58, 3) := by decide +kernel
theorem dX11_night_4 : decode cX11_night 4 = .ok (.ifCond .ne 5, 3) := by decide +kernel
theorem dX11_night_9 : decode cX11_night 9 = .ok (.iload_n 1, 1) := by decide +kernel
theorem dX11_night_10 : decode cX11_night 10 = .ok (.iconst 0, 1) := by decide +kernel
theorem dX11_night_11 : decode cX11_night 11 = .ok (.bipush 7, 2) := by decide +kernel
theorem dX11_night_13 : decode cX11_night 13 = .ok (.invokestatic 62, 3) := by decide +kernel
theorem dX11_night_16 : decode cX11_night 16 = .ok (.ifCond .eq 14, 3) := by decide +kernel
theorem dX11_night_30 : decode cX11_night 30 = .ok (.bipush (-2), 2) := by decide +kernel
theorem dX11_night_32 : decode cX11_night 32 = .ok (.ireturn, 1) := by decide +kernel
theorem dX11_night_19 : decode cX11_night 19 = .ok (.iload_n 3, 1) := by decide +kernel
theorem dX11_night_20 : decode cX11_night 20 = .ok (.iconst 0, 1) := by decide +kernel
theorem dX11_night_21 : decode cX11_night 21 = .ok (.sipush 300, 3) := by decide +kernel
theorem dX11_night_24 : decode cX11_night 24 = .ok (.invokestatic 62, 3) := by decide +kernel
theorem dX11_night_27 : decode cX11_night 27 = .ok (.ifCond .ne 6, 3) := by decide +kernel
theorem dX11_night_33 : decode cX11_night 33 = .ok (.aload_n 0, 1) := by decide +kernel
theorem dX11_night_34 : decode cX11_night 34 = .ok (.getfield 10, 3) := by decide +kernel
theorem dX11_night_37 : decode cX11_night 37 = .ok (.getfield 336, 3) := by decide +kernel
theorem dX11_night_40 : decode cX11_night 40 = .ok (.getfield 340, 3) := by decide +kernel
theorem dX11_night_43 : decode cX11_night 43 = .ok (.bipush 40, 2) := by decide +kernel
theorem dX11_night_45 : decode cX11_night 45 = .ok (.if_icmp .lt 6, 3) := by decide +kernel
theorem dX11_night_51 : decode cX11_night 51 = .ok (.aload_n 0, 1) := by decide +kernel
theorem dX11_night_52 : decode cX11_night 52 = .ok (.getfield 10, 3) := by decide +kernel
theorem dX11_night_55 : decode cX11_night 55 = .ok (.getfield 336, 3) := by decide +kernel
theorem dX11_night_58 : decode cX11_night 58 = .ok (.iload_n 1, 1) := by decide +kernel
theorem dX11_night_59 : decode cX11_night 59 = .ok (.iload_n 2, 1) := by decide +kernel
theorem dX11_night_60 : decode cX11_night 60 = .ok (.iload_n 3, 1) := by decide +kernel
theorem dX11_night_61 : decode cX11_night 61 = .ok (.invokevirtual 343, 3) := by decide +kernel
theorem kw_5_86 : (Jvm.Cond.methodLink "ParishUnion" (343 : Nat) ({ cls := "ParishUnion$Vagrants", name := "sleep", desc := "(III)V" } : Jvm.MethodName)) ∈ gT := gT_of (tb_5 _ (List.mem_of_getElem? (i := 86) rfl)) rfl
theorem kw_5_89 : (Jvm.Cond.code ({ cls := "ParishUnion$Vagrants", name := "sleep", desc := "(III)V" } : Jvm.MethodName) prog_12_method_3_code (5 : Nat) (Option.none : Option Jvm.ClassFile.FieldType)) ∈ gT := gT_of (tb_5 _ (List.mem_of_getElem? (i := 89) rfl)) rfl
theorem kw_1_7 : (Jvm.Cond.initialized "ParishUnion$Vagrants") ∈ gT := gT_of (tb_1 _ (List.mem_of_getElem? (i := 7) rfl)) rfl
theorem okX10_sleep : gQok yX10_sleep cX10_sleep 5 (Option.none : Option Jvm.ClassFile.FieldType) 3 := ⟨kw_5_89, kw_1_7, by decide +kernel, by decide +kernel, by decide +kernel⟩
theorem kw_5_87 : (Jvm.Cond.instanceMethod ({ cls := "ParishUnion$Vagrants", name := "sleep", desc := "(III)V" } : Jvm.MethodName)) ∈ gT := gT_of (tb_5 _ (List.mem_of_getElem? (i := 87) rfl)) rfl
theorem kw_5_88 : (Jvm.Cond.selects "ParishUnion$Vagrants" ({ cls := "ParishUnion$Vagrants", name := "sleep", desc := "(III)V" } : Jvm.MethodName) ({ cls := "ParishUnion$Vagrants", name := "sleep", desc := "(III)V" } : Jvm.MethodName)) ∈ gT := gT_of (tb_5 _ (List.mem_of_getElem? (i := 88) rfl)) rfl
theorem dX11_night_64 : decode cX11_night 64 = .ok (.aload_n 0, 1) := by decide +kernel
theorem dX11_night_65 : decode cX11_night 65 = .ok (.getfield 10, 3) := by decide +kernel
theorem dX11_night_68 : decode cX11_night 68 = .ok (.getfield 336, 3) := by decide +kernel
theorem dX11_night_71 : decode cX11_night 71 = .ok (.getfield 340, 3) := by decide +kernel
theorem dX11_night_74 : decode cX11_night 74 = .ok (.ireturn, 1) := by decide +kernel
theorem dX11_night_7 : decode cX11_night 7 = .ok (.iconst (-1), 1) := by decide +kernel
theorem dX11_night_8 : decode cX11_night 8 = .ok (.ireturn, 1) := by decide +kernel
set_option maxRecDepth 100000 in
set_option maxHeartbeats 4000000 in
theorem c_X11_night {l : Launch} {n0 : Nat} {D : va_G} {cA : Nat → ClassId} {M : gM} (a b g : Int) (r_a : -2147483648 ≤ a ∧ a ≤ 2147483647) (r_b : -2147483648 ≤ b ∧ b ≤ 2147483647) (r_g : -2147483648 ≤ g ∧ g ≤ 2147483647) {sz : Nat} (hsz : 206 ≤ sz) (f_0_0 : M 0 0 = 2) (f_1_8 : M 1 8 = 27) (f_26_3 : M 26 3 = 0) (f_26_0 : M 26 0 = 28) (f_26_1 : M 26 1 = 29) (f_26_2 : M 26 2 = 30) : Met l yX11_night (gWsOf yX11_night cX11_night 4 (Option.some Jvm.ClassFile.FieldType.int)) { frames := 2, cells := 0, slots := 0, locals := 42 } (gPc n0 D cA [gA n0 0, gJ a, gJ b, gJ g] M sz) (gQi n0 D cA sz (fun z M1 => (((¬(0 ≤ b ∧ b ≤ 5)) → z = -1) ∧ (¬(¬(0 ≤ b ∧ b ≤ 5)) → (¬(0 ≤ a ∧ a ≤ 7) ∨ ¬(0 ≤ g ∧ g ≤ 300)) → z = -2) ∧ (¬(¬(0 ≤ b ∧ b ≤ 5)) → ¬(¬(0 ≤ a ∧ a ≤ 7) ∨ ¬(0 ≤ g ∧ g ≤ 300)) → (z = 1))) ∧ ∀ a : Int, a ≠ 26 → a ≠ 27 → a ≠ 28 → a ≠ 29 → M1 a = M a)) 0 0 (fun q => n0 ≤ q) := by
  refine gMet_of [gA n0 0, gJ a, gJ b, gJ g] (by decide) (Nat.le_of_ble_eq_true rfl) ?_
  intro p e s m args below meth cd X hr hm
  have X : gCx p s m args meth cd n0 D cA "ParishUnion" cX11_night 4 := X
  show G p l e ({ frames := 2, cells := 0, slots := 0, locals := 42 } : Room) s m args below meth cd n0 D cA 4 (MQ below (gQi n0 D cA sz (fun z M1 => (((¬(0 ≤ b ∧ b ≤ 5)) → z = -1) ∧ (¬(¬(0 ≤ b ∧ b ≤ 5)) → (¬(0 ≤ a ∧ a ≤ 7) ∨ ¬(0 ≤ g ∧ g ≤ 300)) → z = -2) ∧ (¬(¬(0 ≤ b ∧ b ≤ 5)) → ¬(¬(0 ≤ a ∧ a ≤ 7) ∨ ¬(0 ≤ g ∧ g ≤ 300)) → (z = 1))) ∧ ∀ a : Int, a ≠ 26 → a ≠ 27 → a ≠ 28 → a ≠ 29 → M1 a = M a)) args s 0 0 (fun q => n0 ≤ q)) 0 0 M sz 0 [(0, gA n0 0), (1, gJ a), (2, gJ b), (3, gJ g)] []
  refine g_iload_n (n := 1) X 2 dX11_night_0 rfl rfl rfl ?_
  refine g_callSi (n := 4) (As := [gJ b]) (rest := []) (cs1 := 0) (ss1 := 0) X (c_X11_isParish b (by omega) (by omega)) okX11_isParish kw_3_26 kw_3_27 ⟨rfl, rfl⟩ ⟨Nat.le_of_ble_eq_true rfl, Nat.le_of_ble_eq_true rfl⟩ rfl rfl (Nat.le_of_ble_eq_true rfl) ⟨Nat.le_of_ble_eq_true rfl, Nat.le_of_ble_eq_true rfl⟩ rfl rfl dX11_night_1 rfl (fun z1 M2 P3 => ?_)
  obtain ⟨rfl, P3⟩ := P3
  refine g_if_ne (n := 7) (tgt := 9) X dX11_night_4 (by decide) (by omega) rfl (fun c4 => ?_) (fun c4 => ?_)
  · refine g_iload_n (n := 10) X 1 dX11_night_9 rfl rfl rfl ?_
    refine g_iconst (n := 11) X dX11_night_10 rfl ?_
    refine g_bipush (n := 13) X dX11_night_11 (by decide +kernel) rfl ?_
    refine g_callSi (n := 16) (As := [gJ a, gJ 0, gJ 7]) (rest := []) (cs1 := 0) (ss1 := 0) X (c_X11_within a 0 7 (by omega) (by omega) (by omega) (by omega)) okX11_within kw_3_29 kw_3_30 ⟨rfl, rfl⟩ ⟨Nat.le_of_ble_eq_true rfl, Nat.le_of_ble_eq_true rfl⟩ rfl rfl (Nat.le_of_ble_eq_true rfl) ⟨Nat.le_of_ble_eq_true rfl, Nat.le_of_ble_eq_true rfl⟩ rfl rfl dX11_night_13 rfl (fun z5 M6 P7 => ?_)
    obtain ⟨rfl, P7⟩ := P7
    refine g_if_eq (n := 19) (tgt := 30) X dX11_night_16 (by decide) (by omega) rfl (fun c8 => ?_) (fun c8 => ?_)
    · refine g_bipush (n := 32) X dX11_night_30 (by decide +kernel) rfl ?_
      exact g_ireturn X hr dX11_night_32 (by exact ⟨by omega, fun a h0 h1 h2 h3 => rfl⟩)
    · refine g_iload_n (n := 20) X 3 dX11_night_19 rfl rfl rfl ?_
      refine g_iconst (n := 21) X dX11_night_20 rfl ?_
      refine g_sipush (n := 24) X dX11_night_21 (by decide +kernel) rfl ?_
      refine g_callSi (n := 27) (As := [gJ g, gJ 0, gJ 300]) (rest := []) (cs1 := 0) (ss1 := 0) X (c_X11_within g 0 300 (by omega) (by omega) (by omega) (by omega)) okX11_within kw_3_29 kw_3_30 ⟨rfl, rfl⟩ ⟨Nat.le_of_ble_eq_true rfl, Nat.le_of_ble_eq_true rfl⟩ rfl rfl (Nat.le_of_ble_eq_true rfl) ⟨Nat.le_of_ble_eq_true rfl, Nat.le_of_ble_eq_true rfl⟩ rfl rfl dX11_night_24 rfl (fun z9 M10 P11 => ?_)
      obtain ⟨rfl, P11⟩ := P11
      refine g_if_ne (n := 30) (tgt := 33) X dX11_night_27 (by decide) (by omega) rfl (fun c12 => ?_) (fun c12 => ?_)
      · refine g_aload_n (n := 34) X 0 dX11_night_33 rfl rfl rfl ?_
        refine gg_11_0 (n := 37) (z := 1) X (by omega) (by omega) lay_0 kw_2_231 dX11_night_34 rfl f_0_0 (by omega) ?_
        refine gg_9_8 (n := 40) (z := 26) X (by omega) (by omega) lay_1 kw_2_123 dX11_night_37 rfl f_1_8 (by omega) ?_
        refine gg_10_3 (n := 43) (z := 0) X (by omega) (by omega) lay_26 kw_1_160 dX11_night_40 rfl f_26_3 ?_
        refine g_bipush (n := 45) X dX11_night_43 (by decide +kernel) rfl ?_
        refine g_icmp_lt (n := 48) (tgt := 51) X dX11_night_45 (by decide) (by omega) (by omega) rfl (fun c13 => ?_) (fun c13 => by exfalso; omega)
        refine g_aload_n (n := 52) X 0 dX11_night_51 rfl rfl rfl ?_
        refine gg_11_0 (n := 55) (z := 1) X (by omega) (by omega) lay_0 kw_2_231 dX11_night_52 rfl f_0_0 (by omega) ?_
        refine gg_9_8 (n := 58) (z := 26) X (by omega) (by omega) lay_1 kw_2_123 dX11_night_55 rfl f_1_8 (by omega) ?_
        refine g_iload_n (n := 59) X 1 dX11_night_58 rfl rfl rfl ?_
        refine g_iload_n (n := 60) X 2 dX11_night_59 rfl rfl rfl ?_
        refine g_iload_n (n := 61) X 3 dX11_night_60 rfl rfl rfl ?_
        refine g_callVv (n := 64) (As := [gJ a, gJ b, gJ g]) (rest := []) (cs1 := 0) (ss1 := 0) X (c_X10_sleep a b g (by omega) (by omega) (by omega) (by omega) f_26_3 f_26_0 f_26_1 f_26_2) okX10_sleep kw_5_86 ⟨kw_5_87, kw_5_88⟩ ⟨rfl, rfl⟩ ⟨Nat.le_of_ble_eq_true rfl, Nat.le_of_ble_eq_true rfl⟩ rfl (by omega) (by omega) lay_26 rfl rfl (Nat.le_of_ble_eq_true rfl) ⟨Nat.le_of_ble_eq_true rfl, Nat.le_of_ble_eq_true rfl⟩ rfl rfl dX11_night_61 rfl (fun M15 P16 => ?_)
        obtain ⟨g18, F17⟩ := P16
        refine g_aload_n (n := 65) X 0 dX11_night_64 rfl rfl rfl ?_
        refine gg_11_0 (n := 68) (z := 1) X (by omega) (by omega) lay_0 kw_2_231 dX11_night_65 rfl ((congrFun (F17 0 (by omega) (by omega) (by omega) (by omega)) _).trans f_0_0) (by omega) ?_
        refine gg_9_8 (n := 71) (z := 26) X (by omega) (by omega) lay_1 kw_2_123 dX11_night_68 rfl ((congrFun (F17 1 (by omega) (by omega) (by omega) (by omega)) _).trans f_1_8) (by omega) ?_
        refine gg_10_3 (n := 74) (z := 1) X (by omega) (by omega) lay_26 kw_1_160 dX11_night_71 rfl g18 ?_
        exact g_ireturn X hr dX11_night_74 (by exact ⟨by omega, fun a h0 h1 h2 h3 => ((F17 a (by omega) (by omega) (by omega) (by omega)).trans rfl)⟩)
      · refine g_bipush (n := 32) X dX11_night_30 (by decide +kernel) rfl ?_
        exact g_ireturn X hr dX11_night_32 (by exact ⟨by omega, fun a h0 h1 h2 h3 => rfl⟩)
  · refine g_iconst (n := 8) X dX11_night_7 rfl ?_
    exact g_ireturn X hr dX11_night_8 (by exact ⟨by omega, fun a h0 h1 h2 h3 => rfl⟩)
theorem dX10_mayBeOne_0 : decode cX10_mayBeOne 0 = .ok (.iconst (-1), 1) := by decide +kernel
theorem dX10_mayBeOne_1 : decode cX10_mayBeOne 1 = .ok (.istore_n 3, 1) := by decide +kernel
theorem dX10_mayBeOne_2 : decode cX10_mayBeOne 2 = .ok (.iconst 0, 1) := by decide +kernel
theorem dX10_mayBeOne_3 : decode cX10_mayBeOne 3 = .ok (.istore 4, 2) := by decide +kernel
theorem dX10_mayBeOne_5 : decode cX10_mayBeOne 5 = .ok (.iload 4, 2) := by decide +kernel
theorem dX10_mayBeOne_7 : decode cX10_mayBeOne 7 = .ok (.aload_n 0, 1) := by decide +kernel
theorem dX10_mayBeOne_8 : decode cX10_mayBeOne 8 = .ok (.getfield 27, 3) := by decide +kernel
theorem dX10_mayBeOne_11 : decode cX10_mayBeOne 11 = .ok (.if_icmp .ge 81, 3) := by decide +kernel
theorem dX10_mayBeOne_92 : decode cX10_mayBeOne 92 = .ok (.iconst 1, 1) := by decide +kernel
theorem dX10_mayBeOne_93 : decode cX10_mayBeOne 93 = .ok (.ireturn, 1) := by decide +kernel
set_option maxRecDepth 100000 in
set_option maxHeartbeats 4000000 in
theorem c_X10_mayBeOne {l : Launch} {n0 : Nat} {D : va_G} {cA : Nat → ClassId} {M : gM} (a : Int) (r_a : -2147483648 ≤ a ∧ a ≤ 2147483647) {sz : Nat} (hsz : 206 ≤ sz) (f_26_3 : M 26 3 = 0) : Met l yX10_mayBeOne (gWsOf yX10_mayBeOne cX10_mayBeOne 6 (Option.some Jvm.ClassFile.FieldType.boolean)) { frames := 1, cells := 0, slots := 0, locals := 22 } (gPc n0 D cA [gA n0 26, gJ a, gA n0 2] M sz) (gQi n0 D cA sz (fun z M1 => M = M1 ∧ (z = 1))) 0 0 (fun q => n0 ≤ q) := by
  refine gMet_of [gA n0 26, gJ a, gA n0 2] (by decide) (Nat.le_of_ble_eq_true rfl) ?_
  intro p e s m args below meth cd X hr hm
  have X : gCx p s m args meth cd n0 D cA "ParishUnion$Vagrants" cX10_mayBeOne 6 := X
  show G p l e ({ frames := 1, cells := 0, slots := 0, locals := 22 } : Room) s m args below meth cd n0 D cA 6 (MQ below (gQi n0 D cA sz (fun z M1 => M = M1 ∧ (z = 1))) args s 0 0 (fun q => n0 ≤ q)) 0 0 M sz 0 [(0, gA n0 26), (1, gJ a), (2, gA n0 2)] []
  refine g_iconst (n := 1) X dX10_mayBeOne_0 rfl ?_
  refine g_istore_n (n := 2) (L' := [(3, gJ (-1)), (0, gA n0 26), (1, gJ a), (2, gA n0 2)]) X dX10_mayBeOne_1 rfl (by decide) rfl rfl ?_
  refine g_iconst (n := 3) X dX10_mayBeOne_2 rfl ?_
  refine g_istore (n := 5) (L' := [(4, gJ 0), (3, gJ (-1)), (0, gA n0 26), (1, gJ a), (2, gA n0 2)]) X dX10_mayBeOne_3 (by decide) rfl rfl ?_
  refine g_iload (n := 7) X 0 dX10_mayBeOne_5 rfl rfl ?_
  refine g_aload_n (n := 8) X 2 dX10_mayBeOne_7 rfl rfl rfl ?_
  refine gg_10_3 (n := 11) (z := 0) X (by omega) (by omega) lay_26 kw_1_159 dX10_mayBeOne_8 rfl f_26_3 ?_
  refine g_icmp_ge (n := 14) (tgt := 92) X dX10_mayBeOne_11 (by decide) (by omega) (by omega) rfl (fun c1 => ?_) (fun c1 => by exfalso; omega)
  refine g_iconst (n := 93) X dX10_mayBeOne_92 rfl ?_
  exact g_zreturn X (by omega) hr dX10_mayBeOne_93 (by exact ⟨rfl, by omega⟩)
theorem dX11_one_0 : decode cX11_one 0 = .ok (.iload_n 1, 1) := by decide +kernel
theorem dX11_one_1 : decode cX11_one 1 = .ok (.iconst 0, 1) := by decide +kernel
theorem dX11_one_2 : decode cX11_one 2 = .ok (.sipush 255, 3) := by decide +kernel
theorem dX11_one_5 : decode cX11_one 5 = .ok (.invokestatic 62, 3) := by decide +kernel
theorem dX11_one_8 : decode cX11_one 8 = .ok (.ifCond .ne 6, 3) := by decide +kernel
theorem dX11_one_14 : decode cX11_one 14 = .ok (.aload_n 0, 1) := by decide +kernel
theorem dX11_one_15 : decode cX11_one 15 = .ok (.getfield 10, 3) := by decide +kernel
theorem dX11_one_18 : decode cX11_one 18 = .ok (.getfield 336, 3) := by decide +kernel
theorem dX11_one_21 : decode cX11_one 21 = .ok (.iload_n 1, 1) := by decide +kernel
theorem dX11_one_22 : decode cX11_one 22 = .ok (.aload_n 0, 1) := by decide +kernel
theorem dX11_one_23 : decode cX11_one 23 = .ok (.getfield 10, 3) := by decide +kernel
theorem dX11_one_26 : decode cX11_one 26 = .ok (.getfield 66, 3) := by decide +kernel
theorem dX11_one_29 : decode cX11_one 29 = .ok (.invokevirtual 347, 3) := by decide +kernel
theorem kw_5_94 : (Jvm.Cond.methodLink "ParishUnion" (347 : Nat) ({ cls := "ParishUnion$Vagrants", name := "mayBeOne", desc := "(ILParishUnion$Land;)Z" } : Jvm.MethodName)) ∈ gT := gT_of (tb_5 _ (List.mem_of_getElem? (i := 94) rfl)) rfl
theorem kw_5_97 : (Jvm.Cond.code ({ cls := "ParishUnion$Vagrants", name := "mayBeOne", desc := "(ILParishUnion$Land;)Z" } : Jvm.MethodName) prog_12_method_4_code (6 : Nat) (Option.some Jvm.ClassFile.FieldType.boolean)) ∈ gT := gT_of (tb_5 _ (List.mem_of_getElem? (i := 97) rfl)) rfl
theorem okX10_mayBeOne : gQok yX10_mayBeOne cX10_mayBeOne 6 (Option.some Jvm.ClassFile.FieldType.boolean) 2 := ⟨kw_5_97, kw_1_7, by decide +kernel, by decide +kernel, by decide +kernel⟩
theorem kw_5_95 : (Jvm.Cond.instanceMethod ({ cls := "ParishUnion$Vagrants", name := "mayBeOne", desc := "(ILParishUnion$Land;)Z" } : Jvm.MethodName)) ∈ gT := gT_of (tb_5 _ (List.mem_of_getElem? (i := 95) rfl)) rfl
theorem kw_5_96 : (Jvm.Cond.selects "ParishUnion$Vagrants" ({ cls := "ParishUnion$Vagrants", name := "mayBeOne", desc := "(ILParishUnion$Land;)Z" } : Jvm.MethodName) ({ cls := "ParishUnion$Vagrants", name := "mayBeOne", desc := "(ILParishUnion$Land;)Z" } : Jvm.MethodName)) ∈ gT := gT_of (tb_5 _ (List.mem_of_getElem? (i := 96) rfl)) rfl
theorem dX11_one_32 : decode cX11_one 32 = .ok (.ifCond .eq 7, 3) := by decide +kernel
theorem dX11_one_35 : decode cX11_one 35 = .ok (.iconst 1, 1) := by decide +kernel
theorem dX11_one_36 : decode cX11_one 36 = .ok (.goto 4, 3) := by decide +kernel
theorem dX11_one_40 : decode cX11_one 40 = .ok (.ireturn, 1) := by decide +kernel
theorem dX11_one_11 : decode cX11_one 11 = .ok (.bipush (-2), 2) := by decide +kernel
theorem dX11_one_13 : decode cX11_one 13 = .ok (.ireturn, 1) := by decide +kernel
set_option maxRecDepth 100000 in
set_option maxHeartbeats 4000000 in
theorem c_X11_one {l : Launch} {n0 : Nat} {D : va_G} {cA : Nat → ClassId} {M : gM} (a : Int) (r_a : -2147483648 ≤ a ∧ a ≤ 2147483647) {sz : Nat} (hsz : 206 ≤ sz) (f_0_0 : M 0 0 = 2) (f_1_8 : M 1 8 = 27) (f_1_0 : M 1 0 = 3) (f_26_3 : M 26 3 = 0) : Met l yX11_one (gWsOf yX11_one cX11_one 2 (Option.some Jvm.ClassFile.FieldType.int)) { frames := 2, cells := 0, slots := 0, locals := 47 } (gPc n0 D cA [gA n0 0, gJ a] M sz) (gQi n0 D cA sz (fun z M1 => (((¬(0 ≤ a ∧ a ≤ 255)) → z = -2) ∧ (¬(¬(0 ≤ a ∧ a ≤ 255)) → (z = 1))) ∧ ∀ a : Int, M1 a = M a)) 0 0 (fun q => n0 ≤ q) := by
  refine gMet_of [gA n0 0, gJ a] (by decide) (Nat.le_of_ble_eq_true rfl) ?_
  intro p e s m args below meth cd X hr hm
  have X : gCx p s m args meth cd n0 D cA "ParishUnion" cX11_one 2 := X
  show G p l e ({ frames := 2, cells := 0, slots := 0, locals := 47 } : Room) s m args below meth cd n0 D cA 2 (MQ below (gQi n0 D cA sz (fun z M1 => (((¬(0 ≤ a ∧ a ≤ 255)) → z = -2) ∧ (¬(¬(0 ≤ a ∧ a ≤ 255)) → (z = 1))) ∧ ∀ a : Int, M1 a = M a)) args s 0 0 (fun q => n0 ≤ q)) 0 0 M sz 0 [(0, gA n0 0), (1, gJ a)] []
  refine g_iload_n (n := 1) X 1 dX11_one_0 rfl rfl rfl ?_
  refine g_iconst (n := 2) X dX11_one_1 rfl ?_
  refine g_sipush (n := 5) X dX11_one_2 (by decide +kernel) rfl ?_
  refine g_callSi (n := 8) (As := [gJ a, gJ 0, gJ 255]) (rest := []) (cs1 := 0) (ss1 := 0) X (c_X11_within a 0 255 (by omega) (by omega) (by omega) (by omega)) okX11_within kw_3_29 kw_3_30 ⟨rfl, rfl⟩ ⟨Nat.le_of_ble_eq_true rfl, Nat.le_of_ble_eq_true rfl⟩ rfl rfl (Nat.le_of_ble_eq_true rfl) ⟨Nat.le_of_ble_eq_true rfl, Nat.le_of_ble_eq_true rfl⟩ rfl rfl dX11_one_5 rfl (fun z1 M2 P3 => ?_)
  obtain ⟨rfl, P3⟩ := P3
  refine g_if_ne (n := 11) (tgt := 14) X dX11_one_8 (by decide) (by omega) rfl (fun c4 => ?_) (fun c4 => ?_)
  · refine g_aload_n (n := 15) X 0 dX11_one_14 rfl rfl rfl ?_
    refine gg_11_0 (n := 18) (z := 1) X (by omega) (by omega) lay_0 kw_2_231 dX11_one_15 rfl f_0_0 (by omega) ?_
    refine gg_9_8 (n := 21) (z := 26) X (by omega) (by omega) lay_1 kw_2_123 dX11_one_18 rfl f_1_8 (by omega) ?_
    refine g_iload_n (n := 22) X 1 dX11_one_21 rfl rfl rfl ?_
    refine g_aload_n (n := 23) X 0 dX11_one_22 rfl rfl rfl ?_
    refine gg_11_0 (n := 26) (z := 1) X (by omega) (by omega) lay_0 kw_2_231 dX11_one_23 rfl f_0_0 (by omega) ?_
    refine gg_9_0 (n := 29) (z := 2) X (by omega) (by omega) lay_1 kw_2_105 dX11_one_26 rfl f_1_0 (by omega) ?_
    refine g_callVi (n := 32) (As := [gJ a, gA n0 2]) (rest := []) (cs1 := 0) (ss1 := 0) X (c_X10_mayBeOne a (by omega) (by omega) f_26_3) okX10_mayBeOne kw_5_94 ⟨kw_5_95, kw_5_96⟩ ⟨rfl, rfl⟩ ⟨Nat.le_of_ble_eq_true rfl, Nat.le_of_ble_eq_true rfl⟩ rfl (by omega) (by omega) lay_26 rfl rfl (Nat.le_of_ble_eq_true rfl) ⟨Nat.le_of_ble_eq_true rfl, Nat.le_of_ble_eq_true rfl⟩ rfl rfl dX11_one_29 rfl (fun z5 M6 P7 => ?_)
    obtain ⟨rfl, rfl⟩ := P7
    refine g_if_eq (n := 35) (tgt := 39) X dX11_one_32 (by decide) (by omega) rfl (fun c8 => by exfalso; omega) (fun c8 => ?_)
    refine g_iconst (n := 36) X dX11_one_35 rfl ?_
    refine g_goto (tgt := 40) X dX11_one_36 (by decide) ?_
    exact g_ireturn X hr dX11_one_40 (by exact ⟨by omega, fun a  => rfl⟩)
  · refine g_bipush (n := 13) X dX11_one_11 (by decide +kernel) rfl ?_
    exact g_ireturn X hr dX11_one_13 (by exact ⟨by omega, fun a  => rfl⟩)
theorem dX2_addChoice_0 : decode cX2_addChoice 0 = .ok (.aload_n 0, 1) := by decide +kernel
theorem dX2_addChoice_1 : decode cX2_addChoice 1 = .ok (.getfield 24, 3) := by decide +kernel
theorem kw_1_104 : (Jvm.Cond.fieldLink "ParishUnion$House" (24 : Nat) "ParishUnion$House" "choiceFor" "[I") ∈ gT := gT_of (tb_1 _ (List.mem_of_getElem? (i := 104) rfl)) rfl
theorem dX2_addChoice_4 : decode cX2_addChoice 4 = .ok (.aload_n 0, 1) := by decide +kernel
theorem dX2_addChoice_5 : decode cX2_addChoice 5 = .ok (.getfield 43, 3) := by decide +kernel
theorem kw_1_107 : (Jvm.Cond.fieldLink "ParishUnion$House" (43 : Nat) "ParishUnion$House" "choices" "I") ∈ gT := gT_of (tb_1 _ (List.mem_of_getElem? (i := 107) rfl)) rfl
theorem dX2_addChoice_8 : decode cX2_addChoice 8 = .ok (.iload_n 1, 1) := by decide +kernel
theorem dX2_addChoice_9 : decode cX2_addChoice 9 = .ok (.iastore, 1) := by decide +kernel
theorem dX2_addChoice_10 : decode cX2_addChoice 10 = .ok (.aload_n 0, 1) := by decide +kernel
theorem dX2_addChoice_11 : decode cX2_addChoice 11 = .ok (.getfield 27, 3) := by decide +kernel
theorem kw_1_105 : (Jvm.Cond.fieldLink "ParishUnion$House" (27 : Nat) "ParishUnion$House" "choiceMore" "[I") ∈ gT := gT_of (tb_1 _ (List.mem_of_getElem? (i := 105) rfl)) rfl
theorem dX2_addChoice_14 : decode cX2_addChoice 14 = .ok (.aload_n 0, 1) := by decide +kernel
theorem dX2_addChoice_15 : decode cX2_addChoice 15 = .ok (.getfield 43, 3) := by decide +kernel
theorem dX2_addChoice_18 : decode cX2_addChoice 18 = .ok (.iload_n 2, 1) := by decide +kernel
theorem dX2_addChoice_19 : decode cX2_addChoice 19 = .ok (.iastore, 1) := by decide +kernel
theorem dX2_addChoice_20 : decode cX2_addChoice 20 = .ok (.aload_n 0, 1) := by decide +kernel
theorem dX2_addChoice_21 : decode cX2_addChoice 21 = .ok (.getfield 30, 3) := by decide +kernel
theorem kw_1_106 : (Jvm.Cond.fieldLink "ParishUnion$House" (30 : Nat) "ParishUnion$House" "choiceCost" "[I") ∈ gT := gT_of (tb_1 _ (List.mem_of_getElem? (i := 106) rfl)) rfl
theorem dX2_addChoice_24 : decode cX2_addChoice 24 = .ok (.aload_n 0, 1) := by decide +kernel
theorem dX2_addChoice_25 : decode cX2_addChoice 25 = .ok (.getfield 43, 3) := by decide +kernel
theorem dX2_addChoice_28 : decode cX2_addChoice 28 = .ok (.iload_n 3, 1) := by decide +kernel
theorem dX2_addChoice_29 : decode cX2_addChoice 29 = .ok (.iastore, 1) := by decide +kernel
theorem dX2_addChoice_30 : decode cX2_addChoice 30 = .ok (.aload_n 0, 1) := by decide +kernel
theorem dX2_addChoice_31 : decode cX2_addChoice 31 = .ok (.dup, 1) := by decide +kernel
theorem dX2_addChoice_32 : decode cX2_addChoice 32 = .ok (.getfield 43, 3) := by decide +kernel
theorem dX2_addChoice_35 : decode cX2_addChoice 35 = .ok (.dup_x1, 1) := by decide +kernel
theorem dX2_addChoice_36 : decode cX2_addChoice 36 = .ok (.iconst 1, 1) := by decide +kernel
theorem dX2_addChoice_37 : decode cX2_addChoice 37 = .ok (.iadd, 1) := by decide +kernel
theorem dX2_addChoice_38 : decode cX2_addChoice 38 = .ok (.putfield 43, 3) := by decide +kernel
theorem dX2_addChoice_41 : decode cX2_addChoice 41 = .ok (.ireturn, 1) := by decide +kernel
set_option maxRecDepth 100000 in
set_option maxHeartbeats 4000000 in
theorem c_X2_addChoice {l : Launch} {n0 : Nat} {D : va_G} {cA : Nat → ClassId} {M : gM} (a b g : Int) (r_a : -2147483648 ≤ a ∧ a ≤ 2147483647) (r_b : -2147483648 ≤ b ∧ b ≤ 2147483647) (r_g : -2147483648 ≤ g ∧ g ≤ 2147483647) {sz : Nat} (hsz : 206 ≤ sz) (f_15_7 : M 15 7 = 0) (f_15_4 : M 15 4 = 21) (f_15_5 : M 15 5 = 22) (f_15_6 : M 15 6 = 23) : Met l yX2_addChoice (gWsOf yX2_addChoice cX2_addChoice 4 (Option.some Jvm.ClassFile.FieldType.int)) { frames := 0, cells := 0, slots := 0, locals := 0 } (gPc n0 D cA [gA n0 15, gJ a, gJ b, gJ g] M sz) (gQi n0 D cA sz (fun z M1 => (z = 0) ∧ ∀ a : Int, a ≠ 15 → a ≠ 20 → a ≠ 21 → a ≠ 22 → M1 a = M a)) 0 0 (fun q => n0 ≤ q) := by
  refine gMet_of [gA n0 15, gJ a, gJ b, gJ g] (by decide) (Nat.le_of_ble_eq_true rfl) ?_
  intro p e s m args below meth cd X hr hm
  have X : gCx p s m args meth cd n0 D cA "ParishUnion$House" cX2_addChoice 4 := X
  show G p l e ({ frames := 0, cells := 0, slots := 0, locals := 0 } : Room) s m args below meth cd n0 D cA 4 (MQ below (gQi n0 D cA sz (fun z M1 => (z = 0) ∧ ∀ a : Int, a ≠ 15 → a ≠ 20 → a ≠ 21 → a ≠ 22 → M1 a = M a)) args s 0 0 (fun q => n0 ≤ q)) 0 0 M sz 0 [(0, gA n0 15), (1, gJ a), (2, gJ b), (3, gJ g)] []
  refine g_aload_n (n := 1) X 0 dX2_addChoice_0 rfl rfl rfl ?_
  refine gg_2_4 (n := 4) (z := 20) X (by omega) (by omega) lay_15 kw_1_104 dX2_addChoice_1 rfl f_15_4 (by omega) ?_
  refine g_aload_n (n := 5) X 0 dX2_addChoice_4 rfl rfl rfl ?_
  refine gg_2_7 (n := 8) (z := 0) X (by omega) (by omega) lay_15 kw_1_107 dX2_addChoice_5 rfl f_15_7 ?_
  refine g_iload_n (n := 9) X 1 dX2_addChoice_8 rfl rfl rfl ?_
  refine g_iast (n := 10) X (by omega) (by omega) lay_20 (by omega) (by omega) (by omega) dX2_addChoice_9 rfl ?_
  refine G.nm (fun M1 e2 => ?_)
  refine g_aload_n (n := 11) X 0 dX2_addChoice_10 rfl rfl rfl ?_
  refine gg_2_5 (n := 14) (z := 21) X (by omega) (by omega) lay_15 kw_1_105 dX2_addChoice_11 rfl ((congrFun (congrFun e2 _) _).trans ((gset_ne (by omega)).trans f_15_5)) (by omega) ?_
  refine g_aload_n (n := 15) X 0 dX2_addChoice_14 rfl rfl rfl ?_
  refine gg_2_7 (n := 18) (z := 0) X (by omega) (by omega) lay_15 kw_1_107 dX2_addChoice_15 rfl ((congrFun (congrFun e2 _) _).trans ((gset_ne (by omega)).trans f_15_7)) ?_
  refine g_iload_n (n := 19) X 2 dX2_addChoice_18 rfl rfl rfl ?_
  refine g_iast (n := 20) X (by omega) (by omega) lay_21 (by omega) (by omega) (by omega) dX2_addChoice_19 rfl ?_
  refine G.nm (fun M3 e4 => ?_)
  refine g_aload_n (n := 21) X 0 dX2_addChoice_20 rfl rfl rfl ?_
  refine gg_2_6 (n := 24) (z := 22) X (by omega) (by omega) lay_15 kw_1_106 dX2_addChoice_21 rfl ((congrFun (congrFun e4 _) _).trans ((gset_ne (by omega)).trans ((congrFun (congrFun e2 _) _).trans ((gset_ne (by omega)).trans f_15_6)))) (by omega) ?_
  refine g_aload_n (n := 25) X 0 dX2_addChoice_24 rfl rfl rfl ?_
  refine gg_2_7 (n := 28) (z := 0) X (by omega) (by omega) lay_15 kw_1_107 dX2_addChoice_25 rfl ((congrFun (congrFun e4 _) _).trans ((gset_ne (by omega)).trans ((congrFun (congrFun e2 _) _).trans ((gset_ne (by omega)).trans f_15_7)))) ?_
  refine g_iload_n (n := 29) X 3 dX2_addChoice_28 rfl rfl rfl ?_
  refine g_iast (n := 30) X (by omega) (by omega) lay_22 (by omega) (by omega) (by omega) dX2_addChoice_29 rfl ?_
  refine G.nm (fun M5 e6 => ?_)
  refine g_aload_n (n := 31) X 0 dX2_addChoice_30 rfl rfl rfl ?_
  refine g_dup (n := 32) X dX2_addChoice_31 rfl rfl ?_
  refine gg_2_7 (n := 35) (z := 0) X (by omega) (by omega) lay_15 kw_1_107 dX2_addChoice_32 rfl ((congrFun (congrFun e6 _) _).trans ((gset_ne (by omega)).trans ((congrFun (congrFun e4 _) _).trans ((gset_ne (by omega)).trans ((congrFun (congrFun e2 _) _).trans ((gset_ne (by omega)).trans f_15_7)))))) ?_
  refine g_dup_x1 (n := 36) X dX2_addChoice_35 rfl rfl rfl ?_
  refine g_iconst (n := 37) X dX2_addChoice_36 rfl ?_
  refine g_iadd (n := 38) (z := 1) X dX2_addChoice_37 rfl rfl ?_
  refine gp_2_7 (n := 41) X (by omega) (by omega) lay_15 kw_1_107 dX2_addChoice_38 rfl ?_
  refine G.nm (fun M7 e8 => ?_)
  exact g_ireturn X hr dX2_addChoice_41 (by exact ⟨by omega, fun a h0 h1 h2 h3 => ((congrFun e8 a).trans ((gset_off a (by omega)).trans ((congrFun e6 a).trans ((gset_off a (by omega)).trans ((congrFun e4 a).trans ((gset_off a (by omega)).trans ((congrFun e2 a).trans ((gset_off a (by omega)).trans rfl))))))))⟩)
theorem dX11_choice_0 : decode cX11_choice 0 = .ok (.iload_n 1, 1) := by decide +kernel
theorem dX11_choice_1 : decode cX11_choice 1 = .ok (.iconst 0, 1) := by decide +kernel
theorem dX11_choice_2 : decode cX11_choice 2 = .ok (.iconst 4, 1) := by decide +kernel
theorem dX11_choice_3 : decode cX11_choice 3 = .ok (.invokestatic 62, 3) := by decide +kernel
theorem dX11_choice_6 : decode cX11_choice 6 = .ok (.ifCond .ne 5, 3) := by decide +kernel
theorem dX11_choice_11 : decode cX11_choice 11 = .ok (.iload_n 2, 1) := by decide +kernel
theorem dX11_choice_12 : decode cX11_choice 12 = .ok (.iconst 1, 1) := by decide +kernel
theorem dX11_choice_13 : decode cX11_choice 13 = .ok (.bipush 99, 2) := by decide +kernel
theorem dX11_choice_15 : decode cX11_choice 15 = .ok (.invokestatic 62, 3) := by decide +kernel
theorem dX11_choice_18 : decode cX11_choice 18 = .ok (.ifCond .eq 14, 3) := by decide +kernel
theorem dX11_choice_32 : decode cX11_choice 32 = .ok (.bipush (-2), 2) := by decide +kernel
theorem dX11_choice_34 : decode cX11_choice 34 = .ok (.ireturn, 1) := by decide +kernel
theorem dX11_choice_21 : decode cX11_choice 21 = .ok (.iload_n 3, 1) := by decide +kernel
theorem dX11_choice_22 : decode cX11_choice 22 = .ok (.iconst 0, 1) := by decide +kernel
theorem dX11_choice_23 : decode cX11_choice 23 = .ok (.sipush 999, 3) := by decide +kernel
theorem dX11_choice_26 : decode cX11_choice 26 = .ok (.invokestatic 62, 3) := by decide +kernel
theorem dX11_choice_29 : decode cX11_choice 29 = .ok (.ifCond .ne 6, 3) := by decide +kernel
theorem dX11_choice_35 : decode cX11_choice 35 = .ok (.aload_n 0, 1) := by decide +kernel
theorem dX11_choice_36 : decode cX11_choice 36 = .ok (.getfield 10, 3) := by decide +kernel
theorem dX11_choice_39 : decode cX11_choice 39 = .ok (.getfield 279, 3) := by decide +kernel
theorem dX11_choice_42 : decode cX11_choice 42 = .ok (.getfield 367, 3) := by decide +kernel
theorem dX11_choice_45 : decode cX11_choice 45 = .ok (.bipush 6, 2) := by decide +kernel
theorem dX11_choice_47 : decode cX11_choice 47 = .ok (.if_icmp .lt 6, 3) := by decide +kernel
theorem dX11_choice_53 : decode cX11_choice 53 = .ok (.aload_n 0, 1) := by decide +kernel
theorem dX11_choice_54 : decode cX11_choice 54 = .ok (.getfield 10, 3) := by decide +kernel
theorem dX11_choice_57 : decode cX11_choice 57 = .ok (.getfield 279, 3) := by decide +kernel
theorem dX11_choice_60 : decode cX11_choice 60 = .ok (.iload_n 1, 1) := by decide +kernel
theorem dX11_choice_61 : decode cX11_choice 61 = .ok (.iload_n 2, 1) := by decide +kernel
theorem dX11_choice_62 : decode cX11_choice 62 = .ok (.iload_n 3, 1) := by decide +kernel
theorem dX11_choice_63 : decode cX11_choice 63 = .ok (.invokevirtual 370, 3) := by decide +kernel
theorem kw_5_131 : (Jvm.Cond.methodLink "ParishUnion" (370 : Nat) ({ cls := "ParishUnion$House", name := "addChoice", desc := "(III)I" } : Jvm.MethodName)) ∈ gT := gT_of (tb_5 _ (List.mem_of_getElem? (i := 131) rfl)) rfl
theorem kw_5_134 : (Jvm.Cond.code ({ cls := "ParishUnion$House", name := "addChoice", desc := "(III)I" } : Jvm.MethodName) prog_4_method_3_code (4 : Nat) (Option.some Jvm.ClassFile.FieldType.int)) ∈ gT := gT_of (tb_5 _ (List.mem_of_getElem? (i := 134) rfl)) rfl
theorem kw_1_5 : (Jvm.Cond.initialized "ParishUnion$House") ∈ gT := gT_of (tb_1 _ (List.mem_of_getElem? (i := 5) rfl)) rfl
theorem okX2_addChoice : gQok yX2_addChoice cX2_addChoice 4 (Option.some Jvm.ClassFile.FieldType.int) 3 := ⟨kw_5_134, kw_1_5, by decide +kernel, by decide +kernel, by decide +kernel⟩
theorem kw_5_132 : (Jvm.Cond.instanceMethod ({ cls := "ParishUnion$House", name := "addChoice", desc := "(III)I" } : Jvm.MethodName)) ∈ gT := gT_of (tb_5 _ (List.mem_of_getElem? (i := 132) rfl)) rfl
theorem kw_5_133 : (Jvm.Cond.selects "ParishUnion$House" ({ cls := "ParishUnion$House", name := "addChoice", desc := "(III)I" } : Jvm.MethodName) ({ cls := "ParishUnion$House", name := "addChoice", desc := "(III)I" } : Jvm.MethodName)) ∈ gT := gT_of (tb_5 _ (List.mem_of_getElem? (i := 133) rfl)) rfl
theorem dX11_choice_66 : decode cX11_choice 66 = .ok (.ireturn, 1) := by decide +kernel
theorem dX11_choice_9 : decode cX11_choice 9 = .ok (.iconst (-1), 1) := by decide +kernel
theorem dX11_choice_10 : decode cX11_choice 10 = .ok (.ireturn, 1) := by decide +kernel
set_option maxRecDepth 100000 in
set_option maxHeartbeats 4000000 in
theorem c_X11_choice {l : Launch} {n0 : Nat} {D : va_G} {cA : Nat → ClassId} {M : gM} (a b g : Int) (r_a : -2147483648 ≤ a ∧ a ≤ 2147483647) (r_b : -2147483648 ≤ b ∧ b ≤ 2147483647) (r_g : -2147483648 ≤ g ∧ g ≤ 2147483647) {sz : Nat} (hsz : 206 ≤ sz) (f_0_0 : M 0 0 = 2) (f_1_6 : M 1 6 = 16) (f_15_7 : M 15 7 = 0) (f_15_4 : M 15 4 = 21) (f_15_5 : M 15 5 = 22) (f_15_6 : M 15 6 = 23) : Met l yX11_choice (gWsOf yX11_choice cX11_choice 4 (Option.some Jvm.ClassFile.FieldType.int)) { frames := 1, cells := 0, slots := 0, locals := 23 } (gPc n0 D cA [gA n0 0, gJ a, gJ b, gJ g] M sz) (gQi n0 D cA sz (fun z M1 => (((¬(0 ≤ a ∧ a ≤ 4)) → z = -1) ∧ (¬(¬(0 ≤ a ∧ a ≤ 4)) → (¬(1 ≤ b ∧ b ≤ 99) ∨ ¬(0 ≤ g ∧ g ≤ 999)) → z = -2) ∧ (¬(¬(0 ≤ a ∧ a ≤ 4)) → ¬(¬(1 ≤ b ∧ b ≤ 99) ∨ ¬(0 ≤ g ∧ g ≤ 999)) → (z = 0))) ∧ ∀ a : Int, a ≠ 15 → a ≠ 20 → a ≠ 21 → a ≠ 22 → M1 a = M a)) 0 0 (fun q => n0 ≤ q) := by
  refine gMet_of [gA n0 0, gJ a, gJ b, gJ g] (by decide) (Nat.le_of_ble_eq_true rfl) ?_
  intro p e s m args below meth cd X hr hm
  have X : gCx p s m args meth cd n0 D cA "ParishUnion" cX11_choice 4 := X
  show G p l e ({ frames := 1, cells := 0, slots := 0, locals := 23 } : Room) s m args below meth cd n0 D cA 4 (MQ below (gQi n0 D cA sz (fun z M1 => (((¬(0 ≤ a ∧ a ≤ 4)) → z = -1) ∧ (¬(¬(0 ≤ a ∧ a ≤ 4)) → (¬(1 ≤ b ∧ b ≤ 99) ∨ ¬(0 ≤ g ∧ g ≤ 999)) → z = -2) ∧ (¬(¬(0 ≤ a ∧ a ≤ 4)) → ¬(¬(1 ≤ b ∧ b ≤ 99) ∨ ¬(0 ≤ g ∧ g ≤ 999)) → (z = 0))) ∧ ∀ a : Int, a ≠ 15 → a ≠ 20 → a ≠ 21 → a ≠ 22 → M1 a = M a)) args s 0 0 (fun q => n0 ≤ q)) 0 0 M sz 0 [(0, gA n0 0), (1, gJ a), (2, gJ b), (3, gJ g)] []
  refine g_iload_n (n := 1) X 1 dX11_choice_0 rfl rfl rfl ?_
  refine g_iconst (n := 2) X dX11_choice_1 rfl ?_
  refine g_iconst (n := 3) X dX11_choice_2 rfl ?_
  refine g_callSi (n := 6) (As := [gJ a, gJ 0, gJ 4]) (rest := []) (cs1 := 0) (ss1 := 0) X (c_X11_within a 0 4 (by omega) (by omega) (by omega) (by omega)) okX11_within kw_3_29 kw_3_30 ⟨rfl, rfl⟩ ⟨Nat.le_of_ble_eq_true rfl, Nat.le_of_ble_eq_true rfl⟩ rfl rfl (Nat.le_of_ble_eq_true rfl) ⟨Nat.le_of_ble_eq_true rfl, Nat.le_of_ble_eq_true rfl⟩ rfl rfl dX11_choice_3 rfl (fun z1 M2 P3 => ?_)
  obtain ⟨rfl, P3⟩ := P3
  refine g_if_ne (n := 9) (tgt := 11) X dX11_choice_6 (by decide) (by omega) rfl (fun c4 => ?_) (fun c4 => ?_)
  · refine g_iload_n (n := 12) X 2 dX11_choice_11 rfl rfl rfl ?_
    refine g_iconst (n := 13) X dX11_choice_12 rfl ?_
    refine g_bipush (n := 15) X dX11_choice_13 (by decide +kernel) rfl ?_
    refine g_callSi (n := 18) (As := [gJ b, gJ 1, gJ 99]) (rest := []) (cs1 := 0) (ss1 := 0) X (c_X11_within b 1 99 (by omega) (by omega) (by omega) (by omega)) okX11_within kw_3_29 kw_3_30 ⟨rfl, rfl⟩ ⟨Nat.le_of_ble_eq_true rfl, Nat.le_of_ble_eq_true rfl⟩ rfl rfl (Nat.le_of_ble_eq_true rfl) ⟨Nat.le_of_ble_eq_true rfl, Nat.le_of_ble_eq_true rfl⟩ rfl rfl dX11_choice_15 rfl (fun z5 M6 P7 => ?_)
    obtain ⟨rfl, P7⟩ := P7
    refine g_if_eq (n := 21) (tgt := 32) X dX11_choice_18 (by decide) (by omega) rfl (fun c8 => ?_) (fun c8 => ?_)
    · refine g_bipush (n := 34) X dX11_choice_32 (by decide +kernel) rfl ?_
      exact g_ireturn X hr dX11_choice_34 (by exact ⟨by omega, fun a h0 h1 h2 h3 => rfl⟩)
    · refine g_iload_n (n := 22) X 3 dX11_choice_21 rfl rfl rfl ?_
      refine g_iconst (n := 23) X dX11_choice_22 rfl ?_
      refine g_sipush (n := 26) X dX11_choice_23 (by decide +kernel) rfl ?_
      refine g_callSi (n := 29) (As := [gJ g, gJ 0, gJ 999]) (rest := []) (cs1 := 0) (ss1 := 0) X (c_X11_within g 0 999 (by omega) (by omega) (by omega) (by omega)) okX11_within kw_3_29 kw_3_30 ⟨rfl, rfl⟩ ⟨Nat.le_of_ble_eq_true rfl, Nat.le_of_ble_eq_true rfl⟩ rfl rfl (Nat.le_of_ble_eq_true rfl) ⟨Nat.le_of_ble_eq_true rfl, Nat.le_of_ble_eq_true rfl⟩ rfl rfl dX11_choice_26 rfl (fun z9 M10 P11 => ?_)
      obtain ⟨rfl, P11⟩ := P11
      refine g_if_ne (n := 32) (tgt := 35) X dX11_choice_29 (by decide) (by omega) rfl (fun c12 => ?_) (fun c12 => ?_)
      · refine g_aload_n (n := 36) X 0 dX11_choice_35 rfl rfl rfl ?_
        refine gg_11_0 (n := 39) (z := 1) X (by omega) (by omega) lay_0 kw_2_231 dX11_choice_36 rfl f_0_0 (by omega) ?_
        refine gg_9_6 (n := 42) (z := 15) X (by omega) (by omega) lay_1 kw_2_119 dX11_choice_39 rfl f_1_6 (by omega) ?_
        refine gg_2_7 (n := 45) (z := 0) X (by omega) (by omega) lay_15 kw_1_108 dX11_choice_42 rfl f_15_7 ?_
        refine g_bipush (n := 47) X dX11_choice_45 (by decide +kernel) rfl ?_
        refine g_icmp_lt (n := 50) (tgt := 53) X dX11_choice_47 (by decide) (by omega) (by omega) rfl (fun c13 => ?_) (fun c13 => by exfalso; omega)
        refine g_aload_n (n := 54) X 0 dX11_choice_53 rfl rfl rfl ?_
        refine gg_11_0 (n := 57) (z := 1) X (by omega) (by omega) lay_0 kw_2_231 dX11_choice_54 rfl f_0_0 (by omega) ?_
        refine gg_9_6 (n := 60) (z := 15) X (by omega) (by omega) lay_1 kw_2_119 dX11_choice_57 rfl f_1_6 (by omega) ?_
        refine g_iload_n (n := 61) X 1 dX11_choice_60 rfl rfl rfl ?_
        refine g_iload_n (n := 62) X 2 dX11_choice_61 rfl rfl rfl ?_
        refine g_iload_n (n := 63) X 3 dX11_choice_62 rfl rfl rfl ?_
        refine g_callVi (n := 66) (As := [gJ a, gJ b, gJ g]) (rest := []) (cs1 := 0) (ss1 := 0) X (c_X2_addChoice a b g (by omega) (by omega) (by omega) (by omega) f_15_7 f_15_4 f_15_5 f_15_6) okX2_addChoice kw_5_131 ⟨kw_5_132, kw_5_133⟩ ⟨rfl, rfl⟩ ⟨Nat.le_of_ble_eq_true rfl, Nat.le_of_ble_eq_true rfl⟩ rfl (by omega) (by omega) lay_15 rfl rfl (Nat.le_of_ble_eq_true rfl) ⟨Nat.le_of_ble_eq_true rfl, Nat.le_of_ble_eq_true rfl⟩ rfl rfl dX11_choice_63 rfl (fun z14 M15 P16 => ?_)
        obtain ⟨P16, F17⟩ := P16
        exact g_ireturn X hr dX11_choice_66 (by exact ⟨by omega, fun a h0 h1 h2 h3 => ((F17 a (by omega) (by omega) (by omega) (by omega)).trans rfl)⟩)
      · refine g_bipush (n := 34) X dX11_choice_32 (by decide +kernel) rfl ?_
        exact g_ireturn X hr dX11_choice_34 (by exact ⟨by omega, fun a h0 h1 h2 h3 => rfl⟩)
  · refine g_iconst (n := 10) X dX11_choice_9 rfl ?_
    exact g_ireturn X hr dX11_choice_10 (by exact ⟨by omega, fun a h0 h1 h2 h3 => rfl⟩)
theorem dX11_rowFits_0 : decode cX11_rowFits 0 = .ok (.aload_n 0, 1) := by decide +kernel
theorem dX11_rowFits_1 : decode cX11_rowFits 1 = .ok (.getfield 10, 3) := by decide +kernel
theorem dX11_rowFits_4 : decode cX11_rowFits 4 = .ok (.getfield 85, 3) := by decide +kernel
theorem dX11_rowFits_7 : decode cX11_rowFits 7 = .ok (.aload_n 0, 1) := by decide +kernel
theorem dX11_rowFits_8 : decode cX11_rowFits 8 = .ok (.getfield 10, 3) := by decide +kernel
theorem dX11_rowFits_11 : decode cX11_rowFits 11 = .ok (.getfield 279, 3) := by decide +kernel
theorem dX11_rowFits_14 : decode cX11_rowFits 14 = .ok (.getfield 397, 3) := by decide +kernel
theorem kw_1_102 : (Jvm.Cond.fieldLink "ParishUnion" (397 : Nat) "ParishUnion$House" "rowSize" "[I") ∈ gT := gT_of (tb_1 _ (List.mem_of_getElem? (i := 102) rfl)) rfl
theorem dX11_rowFits_17 : decode cX11_rowFits 17 = .ok (.iload_n 1, 1) := by decide +kernel
theorem dX11_rowFits_18 : decode cX11_rowFits 18 = .ok (.iaload, 1) := by decide +kernel
theorem dX11_rowFits_19 : decode cX11_rowFits 19 = .ok (.iadd, 1) := by decide +kernel
theorem dX11_rowFits_20 : decode cX11_rowFits 20 = .ok (.sipush 300, 3) := by decide +kernel
theorem dX11_rowFits_23 : decode cX11_rowFits 23 = .ok (.if_icmp .gt 7, 3) := by decide +kernel
theorem dX11_rowFits_26 : decode cX11_rowFits 26 = .ok (.iconst 1, 1) := by decide +kernel
theorem dX11_rowFits_27 : decode cX11_rowFits 27 = .ok (.goto 4, 3) := by decide +kernel
theorem dX11_rowFits_31 : decode cX11_rowFits 31 = .ok (.ireturn, 1) := by decide +kernel
set_option maxRecDepth 100000 in
set_option maxHeartbeats 4000000 in
theorem c_X11_rowFits {l : Launch} {n0 : Nat} {D : va_G} {cA : Nat → ClassId} {M : gM} (a : Int) (r_a : -2147483648 ≤ a ∧ a ≤ 2147483647) {sz : Nat} (hsz : 206 ≤ sz) (f_0_0 : M 0 0 = 2) (f_1_15 : M 1 15 = 0) (f_1_6 : M 1 6 = 16) (f_15_2 : M 15 2 = 19) (hab : 0 ≤ a ∧ a ≤ 2) (rows0 : ∀ i : Int, 0 ≤ i → i < 3 → M 18 i = 0) : Met l yX11_rowFits (gWsOf yX11_rowFits cX11_rowFits 2 (Option.some Jvm.ClassFile.FieldType.boolean)) { frames := 0, cells := 0, slots := 0, locals := 0 } (gPc n0 D cA [gA n0 0, gJ a] M sz) (gQi n0 D cA sz (fun z M1 => M = M1 ∧ (z = 1))) 0 0 (fun q => n0 ≤ q) := by
  refine gMet_of [gA n0 0, gJ a] (by decide) (Nat.le_of_ble_eq_true rfl) ?_
  intro p e s m args below meth cd X hr hm
  have X : gCx p s m args meth cd n0 D cA "ParishUnion" cX11_rowFits 2 := X
  show G p l e ({ frames := 0, cells := 0, slots := 0, locals := 0 } : Room) s m args below meth cd n0 D cA 2 (MQ below (gQi n0 D cA sz (fun z M1 => M = M1 ∧ (z = 1))) args s 0 0 (fun q => n0 ≤ q)) 0 0 M sz 0 [(0, gA n0 0), (1, gJ a)] []
  refine g_aload_n (n := 1) X 0 dX11_rowFits_0 rfl rfl rfl ?_
  refine gg_11_0 (n := 4) (z := 1) X (by omega) (by omega) lay_0 kw_2_231 dX11_rowFits_1 rfl f_0_0 (by omega) ?_
  refine gg_9_15 (n := 7) (z := 0) X (by omega) (by omega) lay_1 kw_2_139 dX11_rowFits_4 rfl f_1_15 ?_
  refine g_aload_n (n := 8) X 0 dX11_rowFits_7 rfl rfl rfl ?_
  refine gg_11_0 (n := 11) (z := 1) X (by omega) (by omega) lay_0 kw_2_231 dX11_rowFits_8 rfl f_0_0 (by omega) ?_
  refine gg_9_6 (n := 14) (z := 15) X (by omega) (by omega) lay_1 kw_2_119 dX11_rowFits_11 rfl f_1_6 (by omega) ?_
  refine gg_2_2 (n := 17) (z := 18) X (by omega) (by omega) lay_15 kw_1_102 dX11_rowFits_14 rfl f_15_2 (by omega) ?_
  refine g_iload_n (n := 18) X 1 dX11_rowFits_17 rfl rfl rfl ?_
  refine g_iald (n := 19) X (by omega) (by omega) lay_18 (by omega) (by omega) (by omega) dX11_rowFits_18 rfl ?_
  rw [show M 18 a = 0 from (rows0 _ (by omega) (by omega))]
  refine g_iadd (n := 20) (z := 0) X dX11_rowFits_19 rfl rfl ?_
  refine g_sipush (n := 23) X dX11_rowFits_20 (by decide +kernel) rfl ?_
  refine g_icmp_gt (n := 26) (tgt := 30) X dX11_rowFits_23 (by decide) (by omega) (by omega) rfl (fun c1 => by exfalso; omega) (fun c1 => ?_)
  refine g_iconst (n := 27) X dX11_rowFits_26 rfl ?_
  refine g_goto (tgt := 31) X dX11_rowFits_27 (by decide) ?_
  exact g_zreturn X (by omega) hr dX11_rowFits_31 (by exact ⟨rfl, by omega⟩)
theorem dX11_rowsCanBeTried_0 : decode cX11_rowsCanBeTried 0 = .ok (.iconst 0, 1) := by decide +kernel
theorem dX11_rowsCanBeTried_1 : decode cX11_rowsCanBeTried 1 = .ok (.istore_n 1, 1) := by decide +kernel
theorem dX11_rowsCanBeTried_2 : decode cX11_rowsCanBeTried 2 = .ok (.iconst 0, 1) := by decide +kernel
theorem dX11_rowsCanBeTried_3 : decode cX11_rowsCanBeTried 3 = .ok (.istore_n 2, 1) := by decide +kernel
theorem dX11_rowsCanBeTried_4 : decode cX11_rowsCanBeTried 4 = .ok (.iload_n 2, 1) := by decide +kernel
theorem dX11_rowsCanBeTried_5 : decode cX11_rowsCanBeTried 5 = .ok (.iconst 3, 1) := by decide +kernel
theorem dX11_rowsCanBeTried_6 : decode cX11_rowsCanBeTried 6 = .ok (.if_icmp .ge 42, 3) := by decide +kernel
theorem dX11_rowsCanBeTried_9 : decode cX11_rowsCanBeTried 9 = .ok (.aload_n 0, 1) := by decide +kernel
theorem dX11_rowsCanBeTried_10 : decode cX11_rowsCanBeTried 10 = .ok (.iload_n 2, 1) := by decide +kernel
theorem dX11_rowsCanBeTried_11 : decode cX11_rowsCanBeTried 11 = .ok (.invokevirtual 400, 3) := by decide +kernel
theorem kw_5_153 : (Jvm.Cond.methodLink "ParishUnion" (400 : Nat) ({ cls := "ParishUnion", name := "rowFits", desc := "(I)Z" } : Jvm.MethodName)) ∈ gT := gT_of (tb_5 _ (List.mem_of_getElem? (i := 153) rfl)) rfl
theorem kw_5_156 : (Jvm.Cond.code ({ cls := "ParishUnion", name := "rowFits", desc := "(I)Z" } : Jvm.MethodName) prog_1_method_63_code (2 : Nat) (Option.some Jvm.ClassFile.FieldType.boolean)) ∈ gT := gT_of (tb_5 _ (List.mem_of_getElem? (i := 156) rfl)) rfl
theorem okX11_rowFits : gQok yX11_rowFits cX11_rowFits 2 (Option.some Jvm.ClassFile.FieldType.boolean) 1 := ⟨kw_5_156, kw_1_1, by decide +kernel, by decide +kernel, by decide +kernel⟩
theorem kw_5_155 : (Jvm.Cond.instanceMethod ({ cls := "ParishUnion", name := "rowFits", desc := "(I)Z" } : Jvm.MethodName)) ∈ gT := gT_of (tb_5 _ (List.mem_of_getElem? (i := 155) rfl)) rfl
theorem kw_0_34 : (Jvm.Cond.selects "ParishUnion" ({ cls := "ParishUnion", name := "rowFits", desc := "(I)Z" } : Jvm.MethodName) ({ cls := "ParishUnion", name := "rowFits", desc := "(I)Z" } : Jvm.MethodName)) ∈ gT := gT_of (tb_0 _ (List.mem_of_getElem? (i := 34) rfl)) rfl
theorem dX11_rowsCanBeTried_14 : decode cX11_rowsCanBeTried 14 = .ok (.ifCond .ne 5, 3) := by decide +kernel
theorem dX11_rowsCanBeTried_19 : decode cX11_rowsCanBeTried 19 = .ok (.iload_n 1, 1) := by decide +kernel
theorem dX11_rowsCanBeTried_20 : decode cX11_rowsCanBeTried 20 = .ok (.aload_n 0, 1) := by decide +kernel
theorem dX11_rowsCanBeTried_21 : decode cX11_rowsCanBeTried 21 = .ok (.getfield 10, 3) := by decide +kernel
theorem dX11_rowsCanBeTried_24 : decode cX11_rowsCanBeTried 24 = .ok (.getfield 279, 3) := by decide +kernel
theorem dX11_rowsCanBeTried_27 : decode cX11_rowsCanBeTried 27 = .ok (.getfield 397, 3) := by decide +kernel
theorem dX11_rowsCanBeTried_30 : decode cX11_rowsCanBeTried 30 = .ok (.iload_n 2, 1) := by decide +kernel
theorem dX11_rowsCanBeTried_31 : decode cX11_rowsCanBeTried 31 = .ok (.iaload, 1) := by decide +kernel
theorem dX11_rowsCanBeTried_32 : decode cX11_rowsCanBeTried 32 = .ok (.ifCond .le 7, 3) := by decide +kernel
theorem dX11_rowsCanBeTried_39 : decode cX11_rowsCanBeTried 39 = .ok (.iconst 0, 1) := by decide +kernel
theorem dX11_rowsCanBeTried_40 : decode cX11_rowsCanBeTried 40 = .ok (.ior, 1) := by decide +kernel
theorem dX11_rowsCanBeTried_41 : decode cX11_rowsCanBeTried 41 = .ok (.istore_n 1, 1) := by decide +kernel
theorem dX11_rowsCanBeTried_42 : decode cX11_rowsCanBeTried 42 = .ok (.iinc 2 1, 3) := by decide +kernel
theorem dX11_rowsCanBeTried_45 : decode cX11_rowsCanBeTried 45 = .ok (.goto (-41), 3) := by decide +kernel
theorem dX11_rowsCanBeTried_48 : decode cX11_rowsCanBeTried 48 = .ok (.iload_n 1, 1) := by decide +kernel
theorem dX11_rowsCanBeTried_49 : decode cX11_rowsCanBeTried 49 = .ok (.ireturn, 1) := by decide +kernel
set_option maxRecDepth 100000 in
set_option maxHeartbeats 4000000 in
theorem c_X11_rowsCanBeTried {l : Launch} {n0 : Nat} {D : va_G} {cA : Nat → ClassId} {M : gM}  {sz : Nat} (hsz : 206 ≤ sz) (f_0_0 : M 0 0 = 2) (f_1_15 : M 1 15 = 0) (f_1_6 : M 1 6 = 16) (f_15_2 : M 15 2 = 19) (rows0 : ∀ i : Int, 0 ≤ i → i < 3 → M 18 i = 0) : Met l yX11_rowsCanBeTried (gWsOf yX11_rowsCanBeTried cX11_rowsCanBeTried 3 (Option.some Jvm.ClassFile.FieldType.boolean)) { frames := 1, cells := 0, slots := 0, locals := 21 } (gPc n0 D cA [gA n0 0] M sz) (gQi n0 D cA sz (fun z M1 => M = M1 ∧ (z = 0))) 0 0 (fun q => n0 ≤ q) := by
  refine gMet_of [gA n0 0] (by decide) (Nat.le_of_ble_eq_true rfl) ?_
  intro p e s m args below meth cd X hr hm
  have X : gCx p s m args meth cd n0 D cA "ParishUnion" cX11_rowsCanBeTried 3 := X
  show G p l e ({ frames := 1, cells := 0, slots := 0, locals := 21 } : Room) s m args below meth cd n0 D cA 3 (MQ below (gQi n0 D cA sz (fun z M1 => M = M1 ∧ (z = 0))) args s 0 0 (fun q => n0 ≤ q)) 0 0 M sz 0 [(0, gA n0 0)] []
  refine g_iconst (n := 1) X dX11_rowsCanBeTried_0 rfl ?_
  refine g_istore_n (n := 2) (L' := [(1, gJ 0), (0, gA n0 0)]) X dX11_rowsCanBeTried_1 rfl (by decide) rfl rfl ?_
  refine g_iconst (n := 3) X dX11_rowsCanBeTried_2 rfl ?_
  refine g_istore_n (n := 4) (L' := [(2, gJ 0), (1, gJ 0), (0, gA n0 0)]) X dX11_rowsCanBeTried_3 rfl (by decide) rfl rfl ?_
  refine g_iload_n (n := 5) X 0 dX11_rowsCanBeTried_4 rfl rfl rfl ?_
  refine g_iconst (n := 6) X dX11_rowsCanBeTried_5 rfl ?_
  refine g_icmp_ge (n := 9) (tgt := 48) X dX11_rowsCanBeTried_6 (by decide) (by omega) (by omega) rfl (fun c1 => by exfalso; omega) (fun c1 => ?_)
  refine g_aload_n (n := 10) X 2 dX11_rowsCanBeTried_9 rfl rfl rfl ?_
  refine g_iload_n (n := 11) X 0 dX11_rowsCanBeTried_10 rfl rfl rfl ?_
  refine g_callVi (n := 14) (As := [gJ 0]) (rest := []) (cs1 := 0) (ss1 := 0) X (c_X11_rowFits 0 (by omega) (by omega) f_0_0 f_1_15 f_1_6 f_15_2 (by omega) rows0) okX11_rowFits kw_5_153 ⟨kw_5_155, kw_0_34⟩ ⟨rfl, rfl⟩ ⟨Nat.le_of_ble_eq_true rfl, Nat.le_of_ble_eq_true rfl⟩ rfl (by omega) (by omega) lay_0 rfl rfl (Nat.le_of_ble_eq_true rfl) ⟨Nat.le_of_ble_eq_true rfl, Nat.le_of_ble_eq_true rfl⟩ rfl rfl dX11_rowsCanBeTried_11 rfl (fun z2 M3 P4 => ?_)
  obtain ⟨rfl, rfl⟩ := P4
  refine g_if_ne (n := 17) (tgt := 19) X dX11_rowsCanBeTried_14 (by decide) (by omega) rfl (fun c5 => ?_) (fun c5 => by exfalso; omega)
  refine g_iload_n (n := 20) X 1 dX11_rowsCanBeTried_19 rfl rfl rfl ?_
  refine g_aload_n (n := 21) X 2 dX11_rowsCanBeTried_20 rfl rfl rfl ?_
  refine gg_11_0 (n := 24) (z := 1) X (by omega) (by omega) lay_0 kw_2_231 dX11_rowsCanBeTried_21 rfl f_0_0 (by omega) ?_
  refine gg_9_6 (n := 27) (z := 15) X (by omega) (by omega) lay_1 kw_2_119 dX11_rowsCanBeTried_24 rfl f_1_6 (by omega) ?_
  refine gg_2_2 (n := 30) (z := 18) X (by omega) (by omega) lay_15 kw_1_102 dX11_rowsCanBeTried_27 rfl f_15_2 (by omega) ?_
  refine g_iload_n (n := 31) X 0 dX11_rowsCanBeTried_30 rfl rfl rfl ?_
  refine g_iald (n := 32) X (by omega) (by omega) lay_18 (by omega) (by omega) (by omega) dX11_rowsCanBeTried_31 rfl ?_
  rw [show M 18 0 = 0 from (rows0 _ (by omega) (by omega))]
  refine g_if_le (n := 35) (tgt := 39) X dX11_rowsCanBeTried_32 (by decide) (by omega) rfl (fun c6 => ?_) (fun c6 => by exfalso; omega)
  refine g_iconst (n := 40) X dX11_rowsCanBeTried_39 rfl ?_
  refine g_iorE (n := 41) (z := 0) X dX11_rowsCanBeTried_40 (by decide +kernel) rfl ?_
  refine g_istore_n (n := 42) (L' := [(1, gJ 0), (2, gJ 0), (0, gA n0 0)]) X dX11_rowsCanBeTried_41 rfl (by decide) rfl rfl ?_
  refine g_iinc (n := 45) (w := 1) (L' := [(2, gJ 1), (1, gJ 0), (0, gA n0 0)]) X 1 dX11_rowsCanBeTried_42 rfl rfl (by decide) rfl rfl ?_
  refine g_goto (tgt := 4) X dX11_rowsCanBeTried_45 (by decide) ?_
  refine g_iload_n (n := 5) X 0 dX11_rowsCanBeTried_4 rfl rfl rfl ?_
  refine g_iconst (n := 6) X dX11_rowsCanBeTried_5 rfl ?_
  refine g_icmp_ge (n := 9) (tgt := 48) X dX11_rowsCanBeTried_6 (by decide) (by omega) (by omega) rfl (fun c7 => by exfalso; omega) (fun c7 => ?_)
  refine g_aload_n (n := 10) X 2 dX11_rowsCanBeTried_9 rfl rfl rfl ?_
  refine g_iload_n (n := 11) X 0 dX11_rowsCanBeTried_10 rfl rfl rfl ?_
  refine g_callVi (n := 14) (As := [gJ 1]) (rest := []) (cs1 := 0) (ss1 := 0) X (c_X11_rowFits 1 (by omega) (by omega) f_0_0 f_1_15 f_1_6 f_15_2 (by omega) rows0) okX11_rowFits kw_5_153 ⟨kw_5_155, kw_0_34⟩ ⟨rfl, rfl⟩ ⟨Nat.le_of_ble_eq_true rfl, Nat.le_of_ble_eq_true rfl⟩ rfl (by omega) (by omega) lay_0 rfl rfl (Nat.le_of_ble_eq_true rfl) ⟨Nat.le_of_ble_eq_true rfl, Nat.le_of_ble_eq_true rfl⟩ rfl rfl dX11_rowsCanBeTried_11 rfl (fun z8 M9 P10 => ?_)
  obtain ⟨rfl, rfl⟩ := P10
  refine g_if_ne (n := 17) (tgt := 19) X dX11_rowsCanBeTried_14 (by decide) (by omega) rfl (fun c11 => ?_) (fun c11 => by exfalso; omega)
  refine g_iload_n (n := 20) X 1 dX11_rowsCanBeTried_19 rfl rfl rfl ?_
  refine g_aload_n (n := 21) X 2 dX11_rowsCanBeTried_20 rfl rfl rfl ?_
  refine gg_11_0 (n := 24) (z := 1) X (by omega) (by omega) lay_0 kw_2_231 dX11_rowsCanBeTried_21 rfl f_0_0 (by omega) ?_
  refine gg_9_6 (n := 27) (z := 15) X (by omega) (by omega) lay_1 kw_2_119 dX11_rowsCanBeTried_24 rfl f_1_6 (by omega) ?_
  refine gg_2_2 (n := 30) (z := 18) X (by omega) (by omega) lay_15 kw_1_102 dX11_rowsCanBeTried_27 rfl f_15_2 (by omega) ?_
  refine g_iload_n (n := 31) X 0 dX11_rowsCanBeTried_30 rfl rfl rfl ?_
  refine g_iald (n := 32) X (by omega) (by omega) lay_18 (by omega) (by omega) (by omega) dX11_rowsCanBeTried_31 rfl ?_
  rw [show M 18 1 = 0 from (rows0 _ (by omega) (by omega))]
  refine g_if_le (n := 35) (tgt := 39) X dX11_rowsCanBeTried_32 (by decide) (by omega) rfl (fun c12 => ?_) (fun c12 => by exfalso; omega)
  refine g_iconst (n := 40) X dX11_rowsCanBeTried_39 rfl ?_
  refine g_iorE (n := 41) (z := 0) X dX11_rowsCanBeTried_40 (by decide +kernel) rfl ?_
  refine g_istore_n (n := 42) (L' := [(1, gJ 0), (2, gJ 1), (0, gA n0 0)]) X dX11_rowsCanBeTried_41 rfl (by decide) rfl rfl ?_
  refine g_iinc (n := 45) (w := 2) (L' := [(2, gJ 2), (1, gJ 0), (0, gA n0 0)]) X 1 dX11_rowsCanBeTried_42 rfl rfl (by decide) rfl rfl ?_
  refine g_goto (tgt := 4) X dX11_rowsCanBeTried_45 (by decide) ?_
  refine g_iload_n (n := 5) X 0 dX11_rowsCanBeTried_4 rfl rfl rfl ?_
  refine g_iconst (n := 6) X dX11_rowsCanBeTried_5 rfl ?_
  refine g_icmp_ge (n := 9) (tgt := 48) X dX11_rowsCanBeTried_6 (by decide) (by omega) (by omega) rfl (fun c13 => by exfalso; omega) (fun c13 => ?_)
  refine g_aload_n (n := 10) X 2 dX11_rowsCanBeTried_9 rfl rfl rfl ?_
  refine g_iload_n (n := 11) X 0 dX11_rowsCanBeTried_10 rfl rfl rfl ?_
  refine g_callVi (n := 14) (As := [gJ 2]) (rest := []) (cs1 := 0) (ss1 := 0) X (c_X11_rowFits 2 (by omega) (by omega) f_0_0 f_1_15 f_1_6 f_15_2 (by omega) rows0) okX11_rowFits kw_5_153 ⟨kw_5_155, kw_0_34⟩ ⟨rfl, rfl⟩ ⟨Nat.le_of_ble_eq_true rfl, Nat.le_of_ble_eq_true rfl⟩ rfl (by omega) (by omega) lay_0 rfl rfl (Nat.le_of_ble_eq_true rfl) ⟨Nat.le_of_ble_eq_true rfl, Nat.le_of_ble_eq_true rfl⟩ rfl rfl dX11_rowsCanBeTried_11 rfl (fun z14 M15 P16 => ?_)
  obtain ⟨rfl, rfl⟩ := P16
  refine g_if_ne (n := 17) (tgt := 19) X dX11_rowsCanBeTried_14 (by decide) (by omega) rfl (fun c17 => ?_) (fun c17 => by exfalso; omega)
  refine g_iload_n (n := 20) X 1 dX11_rowsCanBeTried_19 rfl rfl rfl ?_
  refine g_aload_n (n := 21) X 2 dX11_rowsCanBeTried_20 rfl rfl rfl ?_
  refine gg_11_0 (n := 24) (z := 1) X (by omega) (by omega) lay_0 kw_2_231 dX11_rowsCanBeTried_21 rfl f_0_0 (by omega) ?_
  refine gg_9_6 (n := 27) (z := 15) X (by omega) (by omega) lay_1 kw_2_119 dX11_rowsCanBeTried_24 rfl f_1_6 (by omega) ?_
  refine gg_2_2 (n := 30) (z := 18) X (by omega) (by omega) lay_15 kw_1_102 dX11_rowsCanBeTried_27 rfl f_15_2 (by omega) ?_
  refine g_iload_n (n := 31) X 0 dX11_rowsCanBeTried_30 rfl rfl rfl ?_
  refine g_iald (n := 32) X (by omega) (by omega) lay_18 (by omega) (by omega) (by omega) dX11_rowsCanBeTried_31 rfl ?_
  rw [show M 18 2 = 0 from (rows0 _ (by omega) (by omega))]
  refine g_if_le (n := 35) (tgt := 39) X dX11_rowsCanBeTried_32 (by decide) (by omega) rfl (fun c18 => ?_) (fun c18 => by exfalso; omega)
  refine g_iconst (n := 40) X dX11_rowsCanBeTried_39 rfl ?_
  refine g_iorE (n := 41) (z := 0) X dX11_rowsCanBeTried_40 (by decide +kernel) rfl ?_
  refine g_istore_n (n := 42) (L' := [(1, gJ 0), (2, gJ 2), (0, gA n0 0)]) X dX11_rowsCanBeTried_41 rfl (by decide) rfl rfl ?_
  refine g_iinc (n := 45) (w := 3) (L' := [(2, gJ 3), (1, gJ 0), (0, gA n0 0)]) X 1 dX11_rowsCanBeTried_42 rfl rfl (by decide) rfl rfl ?_
  refine g_goto (tgt := 4) X dX11_rowsCanBeTried_45 (by decide) ?_
  refine g_iload_n (n := 5) X 0 dX11_rowsCanBeTried_4 rfl rfl rfl ?_
  refine g_iconst (n := 6) X dX11_rowsCanBeTried_5 rfl ?_
  refine g_icmp_ge (n := 9) (tgt := 48) X dX11_rowsCanBeTried_6 (by decide) (by omega) (by omega) rfl (fun c19 => ?_) (fun c19 => by exfalso; omega)
  refine g_iload_n (n := 49) X 1 dX11_rowsCanBeTried_48 rfl rfl rfl ?_
  exact g_zreturn X (by omega) hr dX11_rowsCanBeTried_49 (by exact ⟨rfl, by omega⟩)
theorem dX11_plan_0 : decode cX11_plan 0 = .ok (.iload_n 1, 1) := by decide +kernel
theorem dX11_plan_1 : decode cX11_plan 1 = .ok (.iconst 0, 1) := by decide +kernel
theorem dX11_plan_2 : decode cX11_plan 2 = .ok (.iconst 1, 1) := by decide +kernel
theorem dX11_plan_3 : decode cX11_plan 3 = .ok (.invokestatic 62, 3) := by decide +kernel
theorem dX11_plan_6 : decode cX11_plan 6 = .ok (.ifCond .ne 5, 3) := by decide +kernel
theorem dX11_plan_11 : decode cX11_plan 11 = .ok (.aload_n 0, 1) := by decide +kernel
theorem dX11_plan_12 : decode cX11_plan 12 = .ok (.invokevirtual 380, 3) := by decide +kernel
theorem kw_5_149 : (Jvm.Cond.methodLink "ParishUnion" (380 : Nat) ({ cls := "ParishUnion", name := "rowsCanBeTried", desc := "()Z" } : Jvm.MethodName)) ∈ gT := gT_of (tb_5 _ (List.mem_of_getElem? (i := 149) rfl)) rfl
theorem kw_5_152 : (Jvm.Cond.code ({ cls := "ParishUnion", name := "rowsCanBeTried", desc := "()Z" } : Jvm.MethodName) prog_1_method_64_code (3 : Nat) (Option.some Jvm.ClassFile.FieldType.boolean)) ∈ gT := gT_of (tb_5 _ (List.mem_of_getElem? (i := 152) rfl)) rfl
theorem okX11_rowsCanBeTried : gQok yX11_rowsCanBeTried cX11_rowsCanBeTried 3 (Option.some Jvm.ClassFile.FieldType.boolean) 0 := ⟨kw_5_152, kw_1_1, by decide +kernel, by decide +kernel, by decide +kernel⟩
theorem kw_5_151 : (Jvm.Cond.instanceMethod ({ cls := "ParishUnion", name := "rowsCanBeTried", desc := "()Z" } : Jvm.MethodName)) ∈ gT := gT_of (tb_5 _ (List.mem_of_getElem? (i := 151) rfl)) rfl
theorem kw_0_33 : (Jvm.Cond.selects "ParishUnion" ({ cls := "ParishUnion", name := "rowsCanBeTried", desc := "()Z" } : Jvm.MethodName) ({ cls := "ParishUnion", name := "rowsCanBeTried", desc := "()Z" } : Jvm.MethodName)) ∈ gT := gT_of (tb_0 _ (List.mem_of_getElem? (i := 33) rfl)) rfl
theorem dX11_plan_15 : decode cX11_plan 15 = .ok (.ifCond .ne 6, 3) := by decide +kernel
theorem dX11_plan_18 : decode cX11_plan 18 = .ok (.bipush (-3), 2) := by decide +kernel
theorem dX11_plan_20 : decode cX11_plan 20 = .ok (.ireturn, 1) := by decide +kernel
theorem dX11_plan_9 : decode cX11_plan 9 = .ok (.iconst (-1), 1) := by decide +kernel
theorem dX11_plan_10 : decode cX11_plan 10 = .ok (.ireturn, 1) := by decide +kernel
set_option maxRecDepth 100000 in
set_option maxHeartbeats 4000000 in
theorem c_X11_plan {l : Launch} {n0 : Nat} {D : va_G} {cA : Nat → ClassId} {M : gM} (a : Int) (r_a : -2147483648 ≤ a ∧ a ≤ 2147483647) {sz : Nat} (hsz : 206 ≤ sz) (f_0_0 : M 0 0 = 2) (f_1_15 : M 1 15 = 0) (f_1_6 : M 1 6 = 16) (f_15_2 : M 15 2 = 19) (rows0 : ∀ i : Int, 0 ≤ i → i < 3 → M 18 i = 0) : Met l yX11_plan (gWsOf yX11_plan cX11_plan 7 (Option.some Jvm.ClassFile.FieldType.int)) { frames := 8, cells := 0, slots := 0, locals := 217 } (gPc n0 D cA [gA n0 0, gJ a] M sz) (gQi n0 D cA sz (fun z M1 => ((¬(0 ≤ a ∧ a ≤ 1) → z = -1) ∧ (0 ≤ a → a ≤ 1 → z = -3)) ∧ ∀ a : Int, M1 a = M a)) 0 0 (fun q => n0 ≤ q) := by
  refine gMet_of [gA n0 0, gJ a] (by decide) (Nat.le_of_ble_eq_true rfl) ?_
  intro p e s m args below meth cd X hr hm
  have X : gCx p s m args meth cd n0 D cA "ParishUnion" cX11_plan 7 := X
  show G p l e ({ frames := 8, cells := 0, slots := 0, locals := 217 } : Room) s m args below meth cd n0 D cA 7 (MQ below (gQi n0 D cA sz (fun z M1 => ((¬(0 ≤ a ∧ a ≤ 1) → z = -1) ∧ (0 ≤ a → a ≤ 1 → z = -3)) ∧ ∀ a : Int, M1 a = M a)) args s 0 0 (fun q => n0 ≤ q)) 0 0 M sz 0 [(0, gA n0 0), (1, gJ a)] []
  refine g_iload_n (n := 1) X 1 dX11_plan_0 rfl rfl rfl ?_
  refine g_iconst (n := 2) X dX11_plan_1 rfl ?_
  refine g_iconst (n := 3) X dX11_plan_2 rfl ?_
  refine g_callSi (n := 6) (As := [gJ a, gJ 0, gJ 1]) (rest := []) (cs1 := 0) (ss1 := 0) X (c_X11_within a 0 1 (by omega) (by omega) (by omega) (by omega)) okX11_within kw_3_29 kw_3_30 ⟨rfl, rfl⟩ ⟨Nat.le_of_ble_eq_true rfl, Nat.le_of_ble_eq_true rfl⟩ rfl rfl (Nat.le_of_ble_eq_true rfl) ⟨Nat.le_of_ble_eq_true rfl, Nat.le_of_ble_eq_true rfl⟩ rfl rfl dX11_plan_3 rfl (fun z1 M2 P3 => ?_)
  obtain ⟨rfl, P3⟩ := P3
  refine g_if_ne (n := 9) (tgt := 11) X dX11_plan_6 (by decide) (by omega) rfl (fun c4 => ?_) (fun c4 => ?_)
  · refine g_aload_n (n := 12) X 0 dX11_plan_11 rfl rfl rfl ?_
    refine g_callVi (n := 15) (As := []) (rest := []) (cs1 := 0) (ss1 := 0) X (c_X11_rowsCanBeTried (by omega) f_0_0 f_1_15 f_1_6 f_15_2 rows0) okX11_rowsCanBeTried kw_5_149 ⟨kw_5_151, kw_0_33⟩ ⟨rfl, rfl⟩ ⟨Nat.le_of_ble_eq_true rfl, Nat.le_of_ble_eq_true rfl⟩ rfl (by omega) (by omega) lay_0 rfl rfl (Nat.le_of_ble_eq_true rfl) ⟨Nat.le_of_ble_eq_true rfl, Nat.le_of_ble_eq_true rfl⟩ rfl rfl dX11_plan_12 rfl (fun z5 M6 P7 => ?_)
    obtain ⟨rfl, rfl⟩ := P7
    refine g_if_ne (n := 18) (tgt := 21) X dX11_plan_15 (by decide) (by omega) rfl (fun c8 => by exfalso; omega) (fun c8 => ?_)
    refine g_bipush (n := 20) X dX11_plan_18 (by decide +kernel) rfl ?_
    exact g_ireturn X hr dX11_plan_20 (by exact ⟨by omega, fun a  => rfl⟩)
  · refine g_iconst (n := 10) X dX11_plan_9 rfl ?_
    exact g_ireturn X hr dX11_plan_10 (by exact ⟨by omega, fun a  => rfl⟩)
theorem dX11_tried_0 : decode cX11_tried 0 = .ok (.iload_n 1, 1) := by decide +kernel
theorem dX11_tried_1 : decode cX11_tried 1 = .ok (.iconst 0, 1) := by decide +kernel
theorem dX11_tried_2 : decode cX11_tried 2 = .ok (.iconst 2, 1) := by decide +kernel
theorem dX11_tried_3 : decode cX11_tried 3 = .ok (.invokestatic 62, 3) := by decide +kernel
theorem dX11_tried_6 : decode cX11_tried 6 = .ok (.ifCond .eq 27, 3) := by decide +kernel
theorem dX11_tried_33 : decode cX11_tried 33 = .ok (.iconst (-1), 1) := by decide +kernel
theorem dX11_tried_34 : decode cX11_tried 34 = .ok (.ireturn, 1) := by decide +kernel
theorem dX11_tried_9 : decode cX11_tried 9 = .ok (.iload_n 2, 1) := by decide +kernel
theorem dX11_tried_10 : decode cX11_tried 10 = .ok (.iconst 0, 1) := by decide +kernel
theorem dX11_tried_11 : decode cX11_tried 11 = .ok (.iconst 2, 1) := by decide +kernel
theorem dX11_tried_12 : decode cX11_tried 12 = .ok (.invokestatic 62, 3) := by decide +kernel
theorem dX11_tried_15 : decode cX11_tried 15 = .ok (.ifCond .eq 18, 3) := by decide +kernel
theorem dX11_tried_18 : decode cX11_tried 18 = .ok (.aload_n 0, 1) := by decide +kernel
theorem dX11_tried_19 : decode cX11_tried 19 = .ok (.getfield 10, 3) := by decide +kernel
theorem dX11_tried_22 : decode cX11_tried 22 = .ok (.getfield 279, 3) := by decide +kernel
theorem dX11_tried_25 : decode cX11_tried 25 = .ok (.getfield 397, 3) := by decide +kernel
theorem dX11_tried_28 : decode cX11_tried 28 = .ok (.iload_n 1, 1) := by decide +kernel
theorem dX11_tried_29 : decode cX11_tried 29 = .ok (.iaload, 1) := by decide +kernel
theorem dX11_tried_30 : decode cX11_tried 30 = .ok (.ifCond .ne 5, 3) := by decide +kernel
set_option maxRecDepth 100000 in
set_option maxHeartbeats 4000000 in
theorem c_X11_tried {l : Launch} {n0 : Nat} {D : va_G} {cA : Nat → ClassId} {M : gM} (a b : Int) (r_a : -2147483648 ≤ a ∧ a ≤ 2147483647) (r_b : -2147483648 ≤ b ∧ b ≤ 2147483647) {sz : Nat} (hsz : 206 ≤ sz) (f_0_0 : M 0 0 = 2) (f_1_6 : M 1 6 = 16) (f_15_2 : M 15 2 = 19) (rows0 : ∀ i : Int, 0 ≤ i → i < 3 → M 18 i = 0) : Met l yX11_tried (gWsOf yX11_tried cX11_tried 6 (Option.some Jvm.ClassFile.FieldType.int)) { frames := 10, cells := 0, slots := 0, locals := 253 } (gPc n0 D cA [gA n0 0, gJ a, gJ b] M sz) (gQi n0 D cA sz (fun z M1 => (z = -1) ∧ ∀ a : Int, M1 a = M a)) 0 0 (fun q => n0 ≤ q) := by
  refine gMet_of [gA n0 0, gJ a, gJ b] (by decide) (Nat.le_of_ble_eq_true rfl) ?_
  intro p e s m args below meth cd X hr hm
  have X : gCx p s m args meth cd n0 D cA "ParishUnion" cX11_tried 6 := X
  show G p l e ({ frames := 10, cells := 0, slots := 0, locals := 253 } : Room) s m args below meth cd n0 D cA 6 (MQ below (gQi n0 D cA sz (fun z M1 => (z = -1) ∧ ∀ a : Int, M1 a = M a)) args s 0 0 (fun q => n0 ≤ q)) 0 0 M sz 0 [(0, gA n0 0), (1, gJ a), (2, gJ b)] []
  refine g_iload_n (n := 1) X 1 dX11_tried_0 rfl rfl rfl ?_
  refine g_iconst (n := 2) X dX11_tried_1 rfl ?_
  refine g_iconst (n := 3) X dX11_tried_2 rfl ?_
  refine g_callSi (n := 6) (As := [gJ a, gJ 0, gJ 2]) (rest := []) (cs1 := 0) (ss1 := 0) X (c_X11_within a 0 2 (by omega) (by omega) (by omega) (by omega)) okX11_within kw_3_29 kw_3_30 ⟨rfl, rfl⟩ ⟨Nat.le_of_ble_eq_true rfl, Nat.le_of_ble_eq_true rfl⟩ rfl rfl (Nat.le_of_ble_eq_true rfl) ⟨Nat.le_of_ble_eq_true rfl, Nat.le_of_ble_eq_true rfl⟩ rfl rfl dX11_tried_3 rfl (fun z1 M2 P3 => ?_)
  obtain ⟨rfl, P3⟩ := P3
  refine g_if_eq (n := 9) (tgt := 33) X dX11_tried_6 (by decide) (by omega) rfl (fun c4 => ?_) (fun c4 => ?_)
  · refine g_iconst (n := 34) X dX11_tried_33 rfl ?_
    exact g_ireturn X hr dX11_tried_34 (by exact ⟨by omega, fun a  => rfl⟩)
  · refine g_iload_n (n := 10) X 2 dX11_tried_9 rfl rfl rfl ?_
    refine g_iconst (n := 11) X dX11_tried_10 rfl ?_
    refine g_iconst (n := 12) X dX11_tried_11 rfl ?_
    refine g_callSi (n := 15) (As := [gJ b, gJ 0, gJ 2]) (rest := []) (cs1 := 0) (ss1 := 0) X (c_X11_within b 0 2 (by omega) (by omega) (by omega) (by omega)) okX11_within kw_3_29 kw_3_30 ⟨rfl, rfl⟩ ⟨Nat.le_of_ble_eq_true rfl, Nat.le_of_ble_eq_true rfl⟩ rfl rfl (Nat.le_of_ble_eq_true rfl) ⟨Nat.le_of_ble_eq_true rfl, Nat.le_of_ble_eq_true rfl⟩ rfl rfl dX11_tried_12 rfl (fun z5 M6 P7 => ?_)
    obtain ⟨rfl, P7⟩ := P7
    refine g_if_eq (n := 18) (tgt := 33) X dX11_tried_15 (by decide) (by omega) rfl (fun c8 => ?_) (fun c8 => ?_)
    · refine g_iconst (n := 34) X dX11_tried_33 rfl ?_
      exact g_ireturn X hr dX11_tried_34 (by exact ⟨by omega, fun a  => rfl⟩)
    · refine g_aload_n (n := 19) X 0 dX11_tried_18 rfl rfl rfl ?_
      refine gg_11_0 (n := 22) (z := 1) X (by omega) (by omega) lay_0 kw_2_231 dX11_tried_19 rfl f_0_0 (by omega) ?_
      refine gg_9_6 (n := 25) (z := 15) X (by omega) (by omega) lay_1 kw_2_119 dX11_tried_22 rfl f_1_6 (by omega) ?_
      refine gg_2_2 (n := 28) (z := 18) X (by omega) (by omega) lay_15 kw_1_102 dX11_tried_25 rfl f_15_2 (by omega) ?_
      refine g_iload_n (n := 29) X 1 dX11_tried_28 rfl rfl rfl ?_
      refine g_iald (n := 30) X (by omega) (by omega) lay_18 (by omega) (by omega) (by omega) dX11_tried_29 rfl ?_
      rw [show M 18 a = 0 from (rows0 _ (by omega) (by omega))]
      refine g_if_ne (n := 33) (tgt := 35) X dX11_tried_30 (by decide) (by omega) rfl (fun c9 => by exfalso; omega) (fun c9 => ?_)
      refine g_iconst (n := 34) X dX11_tried_33 rfl ?_
      exact g_ireturn X hr dX11_tried_34 (by exact ⟨by omega, fun a  => rfl⟩)
