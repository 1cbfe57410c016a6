theorem dX11_within_0 : decode cX11_within 0 = .ok (.iload_n 0, 1) := by decide +kernel
theorem dX11_within_1 : decode cX11_within 1 = .ok (.iload_n 1, 1) := by decide +kernel
theorem dX11_within_2 : decode cX11_within 2 = .ok (.if_icmp .lt 12, 3) := by decide +kernel
theorem dX11_within_14 : decode cX11_within 14 = .ok (.iconst 0, 1) := by decide +kernel
theorem dX11_within_15 : decode cX11_within 15 = .ok (.ireturn, 1) := by decide +kernel
theorem dX11_within_5 : decode cX11_within 5 = .ok (.iload_n 0, 1) := by decide +kernel
theorem dX11_within_6 : decode cX11_within 6 = .ok (.iload_n 2, 1) := by decide +kernel
theorem dX11_within_7 : decode cX11_within 7 = .ok (.if_icmp .gt 7, 3) := by decide +kernel
theorem dX11_within_10 : decode cX11_within 10 = .ok (.iconst 1, 1) := by decide +kernel
theorem dX11_within_11 : decode cX11_within 11 = .ok (.goto 4, 3) := by decide +kernel
set_option maxRecDepth 100000 in
set_option maxHeartbeats 4000000 in
theorem c_X11_within {l : Launch} {n0 : Nat} {D : va_G} {cA : Nat → ClassId} {M : gM} (a b c : Int) (r_a : -2147483648 ≤ a ∧ a ≤ 2147483647) (r_b : -2147483648 ≤ b ∧ b ≤ 2147483647) (r_c : -2147483648 ≤ c ∧ c ≤ 2147483647) {sz : Nat} (hsz : 206 ≤ sz) : Met l yX11_within (gWsOf yX11_within cX11_within 3 (Option.some Jvm.ClassFile.FieldType.boolean)) { frames := 0, cells := 0, slots := 0, locals := 0 } (gPc n0 D cA [gJ a, gJ b, gJ c] M sz) (gQi n0 D cA sz (fun z M1 => M = M1 ∧ ((b ≤ a ∧ a ≤ c) ∧ z = 1 ∨ ¬(b ≤ a ∧ a ≤ c) ∧ z = 0))) 0 0 (fun q => n0 ≤ q) := by
  refine gMet_of [gJ a, gJ b, gJ c] (by decide) (Nat.le_of_ble_eq_true rfl) ?_
  intro p e s m args below meth cd X hr hm
  have X : gCx p s m args meth cd n0 D cA "ParishUnion" cX11_within 3 := X
  show G p l e ({ frames := 0, cells := 0, slots := 0, locals := 0 } : Room) s m args below meth cd n0 D cA 3 (MQ below (gQi n0 D cA sz (fun z M1 => M = M1 ∧ ((b ≤ a ∧ a ≤ c) ∧ z = 1 ∨ ¬(b ≤ a ∧ a ≤ c) ∧ z = 0))) args s 0 0 (fun q => n0 ≤ q)) 0 0 M sz 0 [(0, gJ a), (1, gJ b), (2, gJ c)] []
  refine g_iload_n (n := 1) X 0 dX11_within_0 rfl rfl rfl ?_
  refine g_iload_n (n := 2) X 1 dX11_within_1 rfl rfl rfl ?_
  refine g_icmp_lt (n := 5) (tgt := 14) X dX11_within_2 (by decide) (by omega) (by omega) rfl (fun c1 => ?_) (fun c1 => ?_)
  · refine g_iconst (n := 15) X dX11_within_14 rfl ?_
    exact g_zreturn X (by omega) hr dX11_within_15 (by exact ⟨rfl, by omega⟩)
  · refine g_iload_n (n := 6) X 0 dX11_within_5 rfl rfl rfl ?_
    refine g_iload_n (n := 7) X 2 dX11_within_6 rfl rfl rfl ?_
    refine g_icmp_gt (n := 10) (tgt := 14) X dX11_within_7 (by decide) (by omega) (by omega) rfl (fun c2 => ?_) (fun c2 => ?_)
    · refine g_iconst (n := 15) X dX11_within_14 rfl ?_
      exact g_zreturn X (by omega) hr dX11_within_15 (by exact ⟨rfl, by omega⟩)
    · refine g_iconst (n := 11) X dX11_within_10 rfl ?_
      refine g_goto (tgt := 15) X dX11_within_11 (by decide) ?_
      exact g_zreturn X (by omega) hr dX11_within_15 (by exact ⟨rfl, by omega⟩)
theorem dX11_isParish_0 : decode cX11_isParish 0 = .ok (.iload_n 0, 1) := by decide +kernel
theorem dX11_isParish_1 : decode cX11_isParish 1 = .ok (.iconst 0, 1) := by decide +kernel
theorem dX11_isParish_2 : decode cX11_isParish 2 = .ok (.iconst 5, 1) := by decide +kernel
theorem dX11_isParish_3 : decode cX11_isParish 3 = .ok (.invokestatic 62, 3) := by decide +kernel
theorem kw_3_29 : (Jvm.Cond.methodLink "ParishUnion" (62 : Nat) ({ cls := "ParishUnion", name := "within", desc := "(III)Z" } : Jvm.MethodName)) ∈ gT := gT_of (tb_3 _ (List.mem_of_getElem? (i := 29) rfl)) rfl
theorem kw_3_31 : (Jvm.Cond.code ({ cls := "ParishUnion", name := "within", desc := "(III)Z" } : Jvm.MethodName) prog_1_method_48_code (3 : Nat) (Option.some Jvm.ClassFile.FieldType.boolean)) ∈ gT := gT_of (tb_3 _ (List.mem_of_getElem? (i := 31) rfl)) rfl
theorem kw_1_1 : (Jvm.Cond.initialized "ParishUnion") ∈ gT := gT_of (tb_1 _ (List.mem_of_getElem? (i := 1) rfl)) rfl
theorem okX11_within : gQok yX11_within cX11_within 3 (Option.some Jvm.ClassFile.FieldType.boolean) 3 := ⟨kw_3_31, kw_1_1, by decide +kernel, by decide +kernel, by decide +kernel⟩
theorem kw_3_30 : (Jvm.Cond.static ({ cls := "ParishUnion", name := "within", desc := "(III)Z" } : Jvm.MethodName)) ∈ gT := gT_of (tb_3 _ (List.mem_of_getElem? (i := 30) rfl)) rfl
theorem dX11_isParish_6 : decode cX11_isParish 6 = .ok (.ireturn, 1) := by decide +kernel
set_option maxRecDepth 100000 in
set_option maxHeartbeats 4000000 in
theorem c_X11_isParish {l : Launch} {n0 : Nat} {D : va_G} {cA : Nat → ClassId} {M : gM} (a : Int) (r_a : -2147483648 ≤ a ∧ a ≤ 2147483647) {sz : Nat} (hsz : 206 ≤ sz) : Met l yX11_isParish (gWsOf yX11_isParish cX11_isParish 1 (Option.some Jvm.ClassFile.FieldType.boolean)) { frames := 1, cells := 0, slots := 0, locals := 22 } (gPc n0 D cA [gJ a] M sz) (gQi n0 D cA sz (fun z M1 => M = M1 ∧ ((0 ≤ a ∧ a ≤ 5) ∧ z = 1 ∨ ¬(0 ≤ a ∧ a ≤ 5) ∧ z = 0))) 0 0 (fun q => n0 ≤ q) := by
  refine gMet_of [gJ a] (by decide) (Nat.le_of_ble_eq_true rfl) ?_
  intro p e s m args below meth cd X hr hm
  have X : gCx p s m args meth cd n0 D cA "ParishUnion" cX11_isParish 1 := X
  show G p l e ({ frames := 1, cells := 0, slots := 0, locals := 22 } : Room) s m args below meth cd n0 D cA 1 (MQ below (gQi n0 D cA sz (fun z M1 => M = M1 ∧ ((0 ≤ a ∧ a ≤ 5) ∧ z = 1 ∨ ¬(0 ≤ a ∧ a ≤ 5) ∧ z = 0))) args s 0 0 (fun q => n0 ≤ q)) 0 0 M sz 0 [(0, gJ a)] []
  refine g_iload_n (n := 1) X 0 dX11_isParish_0 rfl rfl rfl ?_
  refine g_iconst (n := 2) X dX11_isParish_1 rfl ?_
  refine g_iconst (n := 3) X dX11_isParish_2 rfl ?_
  refine g_callSi (n := 6) (As := [gJ a, gJ 0, gJ 5]) (rest := []) (cs1 := 0) (ss1 := 0) X (c_X11_within a 0 5 (by omega) (by omega) (by omega) (by omega)) okX11_within kw_3_29 kw_3_30 ⟨rfl, rfl⟩ ⟨Nat.le_of_ble_eq_true rfl, Nat.le_of_ble_eq_true rfl⟩ rfl rfl (Nat.le_of_ble_eq_true rfl) ⟨Nat.le_of_ble_eq_true rfl, Nat.le_of_ble_eq_true rfl⟩ rfl rfl dX11_isParish_3 rfl (fun z1 M2 P3 => ?_)
  obtain ⟨rfl, P3⟩ := P3
  exact g_zreturn X (by omega) hr dX11_isParish_6 (by exact ⟨rfl, by omega⟩)
theorem dX11_isBench_0 : decode cX11_isBench 0 = .ok (.iload_n 0, 1) := by decide +kernel
theorem dX11_isBench_1 : decode cX11_isBench 1 = .ok (.iconst 0, 1) := by decide +kernel
theorem dX11_isBench_2 : decode cX11_isBench 2 = .ok (.iconst 1, 1) := by decide +kernel
theorem dX11_isBench_3 : decode cX11_isBench 3 = .ok (.invokestatic 62, 3) := by decide +kernel
theorem dX11_isBench_6 : decode cX11_isBench 6 = .ok (.ireturn, 1) := by decide +kernel
set_option maxRecDepth 100000 in
set_option maxHeartbeats 4000000 in
theorem c_X11_isBench {l : Launch} {n0 : Nat} {D : va_G} {cA : Nat → ClassId} {M : gM} (a : Int) (r_a : -2147483648 ≤ a ∧ a ≤ 2147483647) {sz : Nat} (hsz : 206 ≤ sz) : Met l yX11_isBench (gWsOf yX11_isBench cX11_isBench 1 (Option.some Jvm.ClassFile.FieldType.boolean)) { frames := 1, cells := 0, slots := 0, locals := 22 } (gPc n0 D cA [gJ a] M sz) (gQi n0 D cA sz (fun z M1 => M = M1 ∧ ((0 ≤ a ∧ a ≤ 1) ∧ z = 1 ∨ ¬(0 ≤ a ∧ a ≤ 1) ∧ z = 0))) 0 0 (fun q => n0 ≤ q) := by
  refine gMet_of [gJ a] (by decide) (Nat.le_of_ble_eq_true rfl) ?_
  intro p e s m args below meth cd X hr hm
  have X : gCx p s m args meth cd n0 D cA "ParishUnion" cX11_isBench 1 := X
  show G p l e ({ frames := 1, cells := 0, slots := 0, locals := 22 } : Room) s m args below meth cd n0 D cA 1 (MQ below (gQi n0 D cA sz (fun z M1 => M = M1 ∧ ((0 ≤ a ∧ a ≤ 1) ∧ z = 1 ∨ ¬(0 ≤ a ∧ a ≤ 1) ∧ z = 0))) args s 0 0 (fun q => n0 ≤ q)) 0 0 M sz 0 [(0, gJ a)] []
  refine g_iload_n (n := 1) X 0 dX11_isBench_0 rfl rfl rfl ?_
  refine g_iconst (n := 2) X dX11_isBench_1 rfl ?_
  refine g_iconst (n := 3) X dX11_isBench_2 rfl ?_
  refine g_callSi (n := 6) (As := [gJ a, gJ 0, gJ 1]) (rest := []) (cs1 := 0) (ss1 := 0) X (c_X11_within a 0 1 (by omega) (by omega) (by omega) (by omega)) okX11_within kw_3_29 kw_3_30 ⟨rfl, rfl⟩ ⟨Nat.le_of_ble_eq_true rfl, Nat.le_of_ble_eq_true rfl⟩ rfl rfl (Nat.le_of_ble_eq_true rfl) ⟨Nat.le_of_ble_eq_true rfl, Nat.le_of_ble_eq_true rfl⟩ rfl rfl dX11_isBench_3 rfl (fun z1 M2 P3 => ?_)
  obtain ⟨rfl, P3⟩ := P3
  exact g_zreturn X (by omega) hr dX11_isBench_6 (by exact ⟨rfl, by omega⟩)
theorem dX11_isPerson_0 : decode cX11_isPerson 0 = .ok (.iload_n 1, 1) := by decide +kernel
theorem dX11_isPerson_1 : decode cX11_isPerson 1 = .ok (.iconst 0, 1) := by decide +kernel
theorem dX11_isPerson_2 : decode cX11_isPerson 2 = .ok (.aload_n 0, 1) := by decide +kernel
theorem dX11_isPerson_3 : decode cX11_isPerson 3 = .ok (.getfield 10, 3) := by decide +kernel
theorem kw_2_231 : (Jvm.Cond.fieldLink "ParishUnion" (10 : Nat) "ParishUnion" "union" "LParishUnion$Union;") ∈ gT := gT_of (tb_2 _ (List.mem_of_getElem? (i := 231) rfl)) rfl
theorem dX11_isPerson_6 : decode cX11_isPerson 6 = .ok (.getfield 98, 3) := by decide +kernel
theorem kw_2_127 : (Jvm.Cond.fieldLink "ParishUnion" (98 : Nat) "ParishUnion$Union" "personCount" "I") ∈ gT := gT_of (tb_2 _ (List.mem_of_getElem? (i := 127) rfl)) rfl
theorem dX11_isPerson_9 : decode cX11_isPerson 9 = .ok (.iconst 1, 1) := by decide +kernel
theorem dX11_isPerson_10 : decode cX11_isPerson 10 = .ok (.isub, 1) := by decide +kernel
theorem dX11_isPerson_11 : decode cX11_isPerson 11 = .ok (.invokestatic 62, 3) := by decide +kernel
theorem dX11_isPerson_14 : decode cX11_isPerson 14 = .ok (.ireturn, 1) := by decide +kernel
set_option maxRecDepth 100000 in
set_option maxHeartbeats 4000000 in
theorem c_X11_isPerson {l : Launch} {n0 : Nat} {D : va_G} {cA : Nat → ClassId} {M : gM} (a : Int) (r_a : -2147483648 ≤ a ∧ a ≤ 2147483647) {sz : Nat} (hsz : 206 ≤ sz) (f_0_0 : M 0 0 = 2) (f_1_10 : M 1 10 = 0) : Met l yX11_isPerson (gWsOf yX11_isPerson cX11_isPerson 2 (Option.some Jvm.ClassFile.FieldType.boolean)) { frames := 1, cells := 0, slots := 0, locals := 22 } (gPc n0 D cA [gA n0 0, gJ a] M sz) (gQi n0 D cA sz (fun z M1 => M = M1 ∧ (z = 0))) 0 0 (fun q => n0 ≤ q) := by
  refine gMet_of [gA n0 0, gJ a] (by decide) (Nat.le_of_ble_eq_true rfl) ?_
  intro p e s m args below meth cd X hr hm
  have X : gCx p s m args meth cd n0 D cA "ParishUnion" cX11_isPerson 2 := X
  show G p l e ({ frames := 1, cells := 0, slots := 0, locals := 22 } : Room) s m args below meth cd n0 D cA 2 (MQ below (gQi n0 D cA sz (fun z M1 => M = M1 ∧ (z = 0))) args s 0 0 (fun q => n0 ≤ q)) 0 0 M sz 0 [(0, gA n0 0), (1, gJ a)] []
  refine g_iload_n (n := 1) X 1 dX11_isPerson_0 rfl rfl rfl ?_
  refine g_iconst (n := 2) X dX11_isPerson_1 rfl ?_
  refine g_aload_n (n := 3) X 0 dX11_isPerson_2 rfl rfl rfl ?_
  refine gg_11_0 (n := 6) (z := 1) X (by omega) (by omega) lay_0 kw_2_231 dX11_isPerson_3 rfl f_0_0 (by omega) ?_
  refine gg_9_10 (n := 9) (z := 0) X (by omega) (by omega) lay_1 kw_2_127 dX11_isPerson_6 rfl f_1_10 ?_
  refine g_iconst (n := 10) X dX11_isPerson_9 rfl ?_
  refine g_isub (n := 11) (z := (-1)) X dX11_isPerson_10 rfl rfl ?_
  refine g_callSi (n := 14) (As := [gJ a, gJ 0, gJ (-1)]) (rest := []) (cs1 := 0) (ss1 := 0) X (c_X11_within a 0 (-1) (by omega) (by omega) (by omega) (by omega)) okX11_within kw_3_29 kw_3_30 ⟨rfl, rfl⟩ ⟨Nat.le_of_ble_eq_true rfl, Nat.le_of_ble_eq_true rfl⟩ rfl rfl (Nat.le_of_ble_eq_true rfl) ⟨Nat.le_of_ble_eq_true rfl, Nat.le_of_ble_eq_true rfl⟩ rfl rfl dX11_isPerson_11 rfl (fun z1 M2 P3 => ?_)
  obtain ⟨rfl, P3⟩ := P3
  exact g_zreturn X (by omega) hr dX11_isPerson_14 (by exact ⟨rfl, by omega⟩)
theorem dX11_isRight_0 : decode cX11_isRight 0 = .ok (.iload_n 1, 1) := by decide +kernel
theorem dX11_isRight_1 : decode cX11_isRight 1 = .ok (.iconst 0, 1) := by decide +kernel
theorem dX11_isRight_2 : decode cX11_isRight 2 = .ok (.aload_n 0, 1) := by decide +kernel
theorem dX11_isRight_3 : decode cX11_isRight 3 = .ok (.getfield 10, 3) := by decide +kernel
theorem dX11_isRight_6 : decode cX11_isRight 6 = .ok (.getfield 423, 3) := by decide +kernel
theorem kw_2_130 : (Jvm.Cond.fieldLink "ParishUnion" (423 : Nat) "ParishUnion$Union" "rightCount" "I") ∈ gT := gT_of (tb_2 _ (List.mem_of_getElem? (i := 130) rfl)) rfl
theorem dX11_isRight_9 : decode cX11_isRight 9 = .ok (.iconst 1, 1) := by decide +kernel
theorem dX11_isRight_10 : decode cX11_isRight 10 = .ok (.isub, 1) := by decide +kernel
theorem dX11_isRight_11 : decode cX11_isRight 11 = .ok (.invokestatic 62, 3) := by decide +kernel
theorem dX11_isRight_14 : decode cX11_isRight 14 = .ok (.ireturn, 1) := by decide +kernel
set_option maxRecDepth 100000 in
set_option maxHeartbeats 4000000 in
theorem c_X11_isRight {l : Launch} {n0 : Nat} {D : va_G} {cA : Nat → ClassId} {M : gM} (a : Int) (r_a : -2147483648 ≤ a ∧ a ≤ 2147483647) {sz : Nat} (hsz : 206 ≤ sz) (f_0_0 : M 0 0 = 2) (f_1_11 : M 1 11 = 0) : Met l yX11_isRight (gWsOf yX11_isRight cX11_isRight 2 (Option.some Jvm.ClassFile.FieldType.boolean)) { frames := 1, cells := 0, slots := 0, locals := 22 } (gPc n0 D cA [gA n0 0, gJ a] M sz) (gQi n0 D cA sz (fun z M1 => M = M1 ∧ (z = 0))) 0 0 (fun q => n0 ≤ q) := by
  refine gMet_of [gA n0 0, gJ a] (by decide) (Nat.le_of_ble_eq_true rfl) ?_
  intro p e s m args below meth cd X hr hm
  have X : gCx p s m args meth cd n0 D cA "ParishUnion" cX11_isRight 2 := X
  show G p l e ({ frames := 1, cells := 0, slots := 0, locals := 22 } : Room) s m args below meth cd n0 D cA 2 (MQ below (gQi n0 D cA sz (fun z M1 => M = M1 ∧ (z = 0))) args s 0 0 (fun q => n0 ≤ q)) 0 0 M sz 0 [(0, gA n0 0), (1, gJ a)] []
  refine g_iload_n (n := 1) X 1 dX11_isRight_0 rfl rfl rfl ?_
  refine g_iconst (n := 2) X dX11_isRight_1 rfl ?_
  refine g_aload_n (n := 3) X 0 dX11_isRight_2 rfl rfl rfl ?_
  refine gg_11_0 (n := 6) (z := 1) X (by omega) (by omega) lay_0 kw_2_231 dX11_isRight_3 rfl f_0_0 (by omega) ?_
  refine gg_9_11 (n := 9) (z := 0) X (by omega) (by omega) lay_1 kw_2_130 dX11_isRight_6 rfl f_1_11 ?_
  refine g_iconst (n := 10) X dX11_isRight_9 rfl ?_
  refine g_isub (n := 11) (z := (-1)) X dX11_isRight_10 rfl rfl ?_
  refine g_callSi (n := 14) (As := [gJ a, gJ 0, gJ (-1)]) (rest := []) (cs1 := 0) (ss1 := 0) X (c_X11_within a 0 (-1) (by omega) (by omega) (by omega) (by omega)) okX11_within kw_3_29 kw_3_30 ⟨rfl, rfl⟩ ⟨Nat.le_of_ble_eq_true rfl, Nat.le_of_ble_eq_true rfl⟩ rfl rfl (Nat.le_of_ble_eq_true rfl) ⟨Nat.le_of_ble_eq_true rfl, Nat.le_of_ble_eq_true rfl⟩ rfl rfl dX11_isRight_11 rfl (fun z1 M2 P3 => ?_)
  obtain ⟨rfl, P3⟩ := P3
  exact g_zreturn X (by omega) hr dX11_isRight_14 (by exact ⟨rfl, by omega⟩)
theorem dX11_isOrder_0 : decode cX11_isOrder 0 = .ok (.iload_n 1, 1) := by decide +kernel
theorem dX11_isOrder_1 : decode cX11_isOrder 1 = .ok (.iconst 0, 1) := by decide +kernel
theorem dX11_isOrder_2 : decode cX11_isOrder 2 = .ok (.aload_n 0, 1) := by decide +kernel
theorem dX11_isOrder_3 : decode cX11_isOrder 3 = .ok (.getfield 10, 3) := by decide +kernel
theorem dX11_isOrder_6 : decode cX11_isOrder 6 = .ok (.getfield 247, 3) := by decide +kernel
theorem kw_2_117 : (Jvm.Cond.fieldLink "ParishUnion" (247 : Nat) "ParishUnion$Union" "orders" "LParishUnion$Orders;") ∈ gT := gT_of (tb_2 _ (List.mem_of_getElem? (i := 117) rfl)) rfl
theorem dX11_isOrder_9 : decode cX11_isOrder 9 = .ok (.getfield 251, 3) := by decide +kernel
theorem kw_1_73 : (Jvm.Cond.fieldLink "ParishUnion" (251 : Nat) "ParishUnion$Orders" "count" "I") ∈ gT := gT_of (tb_1 _ (List.mem_of_getElem? (i := 73) rfl)) rfl
theorem dX11_isOrder_12 : decode cX11_isOrder 12 = .ok (.iconst 1, 1) := by decide +kernel
theorem dX11_isOrder_13 : decode cX11_isOrder 13 = .ok (.isub, 1) := by decide +kernel
theorem dX11_isOrder_14 : decode cX11_isOrder 14 = .ok (.invokestatic 62, 3) := by decide +kernel
theorem dX11_isOrder_17 : decode cX11_isOrder 17 = .ok (.ireturn, 1) := by decide +kernel
set_option maxRecDepth 100000 in
set_option maxHeartbeats 4000000 in
theorem c_X11_isOrder {l : Launch} {n0 : Nat} {D : va_G} {cA : Nat → ClassId} {M : gM} (a : Int) (r_a : -2147483648 ≤ a ∧ a ≤ 2147483647) {sz : Nat} (hsz : 206 ≤ sz) (f_0_0 : M 0 0 = 2) (f_1_5 : M 1 5 = 10) (f_9_5 : M 9 5 = 0) : Met l yX11_isOrder (gWsOf yX11_isOrder cX11_isOrder 2 (Option.some Jvm.ClassFile.FieldType.boolean)) { frames := 1, cells := 0, slots := 0, locals := 22 } (gPc n0 D cA [gA n0 0, gJ a] M sz) (gQi n0 D cA sz (fun z M1 => M = M1 ∧ (z = 0))) 0 0 (fun q => n0 ≤ q) := by
  refine gMet_of [gA n0 0, gJ a] (by decide) (Nat.le_of_ble_eq_true rfl) ?_
  intro p e s m args below meth cd X hr hm
  have X : gCx p s m args meth cd n0 D cA "ParishUnion" cX11_isOrder 2 := X
  show G p l e ({ frames := 1, cells := 0, slots := 0, locals := 22 } : Room) s m args below meth cd n0 D cA 2 (MQ below (gQi n0 D cA sz (fun z M1 => M = M1 ∧ (z = 0))) args s 0 0 (fun q => n0 ≤ q)) 0 0 M sz 0 [(0, gA n0 0), (1, gJ a)] []
  refine g_iload_n (n := 1) X 1 dX11_isOrder_0 rfl rfl rfl ?_
  refine g_iconst (n := 2) X dX11_isOrder_1 rfl ?_
  refine g_aload_n (n := 3) X 0 dX11_isOrder_2 rfl rfl rfl ?_
  refine gg_11_0 (n := 6) (z := 1) X (by omega) (by omega) lay_0 kw_2_231 dX11_isOrder_3 rfl f_0_0 (by omega) ?_
  refine gg_9_5 (n := 9) (z := 9) X (by omega) (by omega) lay_1 kw_2_117 dX11_isOrder_6 rfl f_1_5 (by omega) ?_
  refine gg_4_5 (n := 12) (z := 0) X (by omega) (by omega) lay_9 kw_1_73 dX11_isOrder_9 rfl f_9_5 ?_
  refine g_iconst (n := 13) X dX11_isOrder_12 rfl ?_
  refine g_isub (n := 14) (z := (-1)) X dX11_isOrder_13 rfl rfl ?_
  refine g_callSi (n := 17) (As := [gJ a, gJ 0, gJ (-1)]) (rest := []) (cs1 := 0) (ss1 := 0) X (c_X11_within a 0 (-1) (by omega) (by omega) (by omega) (by omega)) okX11_within kw_3_29 kw_3_30 ⟨rfl, rfl⟩ ⟨Nat.le_of_ble_eq_true rfl, Nat.le_of_ble_eq_true rfl⟩ rfl rfl (Nat.le_of_ble_eq_true rfl) ⟨Nat.le_of_ble_eq_true rfl, Nat.le_of_ble_eq_true rfl⟩ rfl rfl dX11_isOrder_14 rfl (fun z1 M2 P3 => ?_)
  obtain ⟨rfl, P3⟩ := P3
  exact g_zreturn X (by omega) hr dX11_isOrder_17 (by exact ⟨rfl, by omega⟩)
theorem dX11_isEntryCount_0 : decode cX11_isEntryCount 0 = .ok (.iload_n 1, 1) := by decide +kernel
theorem dX11_isEntryCount_1 : decode cX11_isEntryCount 1 = .ok (.iconst (-1), 1) := by decide +kernel
theorem dX11_isEntryCount_2 : decode cX11_isEntryCount 2 = .ok (.aload_n 0, 1) := by decide +kernel
theorem dX11_isEntryCount_3 : decode cX11_isEntryCount 3 = .ok (.getfield 10, 3) := by decide +kernel
theorem dX11_isEntryCount_6 : decode cX11_isEntryCount 6 = .ok (.getfield 152, 3) := by decide +kernel
theorem kw_2_133 : (Jvm.Cond.fieldLink "ParishUnion" (152 : Nat) "ParishUnion$Union" "entries" "I") ∈ gT := gT_of (tb_2 _ (List.mem_of_getElem? (i := 133) rfl)) rfl
theorem dX11_isEntryCount_9 : decode cX11_isEntryCount 9 = .ok (.invokestatic 62, 3) := by decide +kernel
theorem dX11_isEntryCount_12 : decode cX11_isEntryCount 12 = .ok (.ireturn, 1) := by decide +kernel
set_option maxRecDepth 100000 in
set_option maxHeartbeats 4000000 in
theorem c_X11_isEntryCount {l : Launch} {n0 : Nat} {D : va_G} {cA : Nat → ClassId} {M : gM} (a : Int) (r_a : -2147483648 ≤ a ∧ a ≤ 2147483647) {sz : Nat} (hsz : 206 ≤ sz) (f_0_0 : M 0 0 = 2) (f_1_12 : M 1 12 = 0) : Met l yX11_isEntryCount (gWsOf yX11_isEntryCount cX11_isEntryCount 2 (Option.some Jvm.ClassFile.FieldType.boolean)) { frames := 1, cells := 0, slots := 0, locals := 22 } (gPc n0 D cA [gA n0 0, gJ a] M sz) (gQi n0 D cA sz (fun z M1 => M = M1 ∧ ((-1 ≤ a ∧ a ≤ 0) ∧ z = 1 ∨ ¬(-1 ≤ a ∧ a ≤ 0) ∧ z = 0))) 0 0 (fun q => n0 ≤ q) := by
  refine gMet_of [gA n0 0, gJ a] (by decide) (Nat.le_of_ble_eq_true rfl) ?_
  intro p e s m args below meth cd X hr hm
  have X : gCx p s m args meth cd n0 D cA "ParishUnion" cX11_isEntryCount 2 := X
  show G p l e ({ frames := 1, cells := 0, slots := 0, locals := 22 } : Room) s m args below meth cd n0 D cA 2 (MQ below (gQi n0 D cA sz (fun z M1 => M = M1 ∧ ((-1 ≤ a ∧ a ≤ 0) ∧ z = 1 ∨ ¬(-1 ≤ a ∧ a ≤ 0) ∧ z = 0))) args s 0 0 (fun q => n0 ≤ q)) 0 0 M sz 0 [(0, gA n0 0), (1, gJ a)] []
  refine g_iload_n (n := 1) X 1 dX11_isEntryCount_0 rfl rfl rfl ?_
  refine g_iconst (n := 2) X dX11_isEntryCount_1 rfl ?_
  refine g_aload_n (n := 3) X 0 dX11_isEntryCount_2 rfl rfl rfl ?_
  refine gg_11_0 (n := 6) (z := 1) X (by omega) (by omega) lay_0 kw_2_231 dX11_isEntryCount_3 rfl f_0_0 (by omega) ?_
  refine gg_9_12 (n := 9) (z := 0) X (by omega) (by omega) lay_1 kw_2_133 dX11_isEntryCount_6 rfl f_1_12 ?_
  refine g_callSi (n := 12) (As := [gJ a, gJ (-1), gJ 0]) (rest := []) (cs1 := 0) (ss1 := 0) X (c_X11_within a (-1) 0 (by omega) (by omega) (by omega) (by omega)) okX11_within kw_3_29 kw_3_30 ⟨rfl, rfl⟩ ⟨Nat.le_of_ble_eq_true rfl, Nat.le_of_ble_eq_true rfl⟩ rfl rfl (Nat.le_of_ble_eq_true rfl) ⟨Nat.le_of_ble_eq_true rfl, Nat.le_of_ble_eq_true rfl⟩ rfl rfl dX11_isEntryCount_9 rfl (fun z1 M2 P3 => ?_)
  obtain ⟨rfl, P3⟩ := P3
  exact g_zreturn X (by omega) hr dX11_isEntryCount_12 (by exact ⟨rfl, by omega⟩)
theorem dX11_isGone_0 : decode cX11_isGone 0 = .ok (.iload_n 1, 1) := by decide +kernel
theorem dX11_isGone_1 : decode cX11_isGone 1 = .ok (.iconst 0, 1) := by decide +kernel
theorem dX11_isGone_2 : decode cX11_isGone 2 = .ok (.aload_n 0, 1) := by decide +kernel
theorem dX11_isGone_3 : decode cX11_isGone 3 = .ok (.getfield 10, 3) := by decide +kernel
theorem dX11_isGone_6 : decode cX11_isGone 6 = .ok (.getfield 85, 3) := by decide +kernel
theorem kw_2_139 : (Jvm.Cond.fieldLink "ParishUnion" (85 : Nat) "ParishUnion$Union" "now" "I") ∈ gT := gT_of (tb_2 _ (List.mem_of_getElem? (i := 139) rfl)) rfl
theorem dX11_isGone_9 : decode cX11_isGone 9 = .ok (.iconst 1, 1) := by decide +kernel
theorem dX11_isGone_10 : decode cX11_isGone 10 = .ok (.isub, 1) := by decide +kernel
theorem dX11_isGone_11 : decode cX11_isGone 11 = .ok (.invokestatic 62, 3) := by decide +kernel
theorem dX11_isGone_14 : decode cX11_isGone 14 = .ok (.ireturn, 1) := by decide +kernel
set_option maxRecDepth 100000 in
set_option maxHeartbeats 4000000 in
theorem c_X11_isGone {l : Launch} {n0 : Nat} {D : va_G} {cA : Nat → ClassId} {M : gM} (a : Int) (r_a : -2147483648 ≤ a ∧ a ≤ 2147483647) {sz : Nat} (hsz : 206 ≤ sz) (f_0_0 : M 0 0 = 2) (f_1_15 : M 1 15 = 0) : Met l yX11_isGone (gWsOf yX11_isGone cX11_isGone 2 (Option.some Jvm.ClassFile.FieldType.boolean)) { frames := 1, cells := 0, slots := 0, locals := 22 } (gPc n0 D cA [gA n0 0, gJ a] M sz) (gQi n0 D cA sz (fun z M1 => M = M1 ∧ (z = 0))) 0 0 (fun q => n0 ≤ q) := by
  refine gMet_of [gA n0 0, gJ a] (by decide) (Nat.le_of_ble_eq_true rfl) ?_
  intro p e s m args below meth cd X hr hm
  have X : gCx p s m args meth cd n0 D cA "ParishUnion" cX11_isGone 2 := X
  show G p l e ({ frames := 1, cells := 0, slots := 0, locals := 22 } : Room) s m args below meth cd n0 D cA 2 (MQ below (gQi n0 D cA sz (fun z M1 => M = M1 ∧ (z = 0))) args s 0 0 (fun q => n0 ≤ q)) 0 0 M sz 0 [(0, gA n0 0), (1, gJ a)] []
  refine g_iload_n (n := 1) X 1 dX11_isGone_0 rfl rfl rfl ?_
  refine g_iconst (n := 2) X dX11_isGone_1 rfl ?_
  refine g_aload_n (n := 3) X 0 dX11_isGone_2 rfl rfl rfl ?_
  refine gg_11_0 (n := 6) (z := 1) X (by omega) (by omega) lay_0 kw_2_231 dX11_isGone_3 rfl f_0_0 (by omega) ?_
  refine gg_9_15 (n := 9) (z := 0) X (by omega) (by omega) lay_1 kw_2_139 dX11_isGone_6 rfl f_1_15 ?_
  refine g_iconst (n := 10) X dX11_isGone_9 rfl ?_
  refine g_isub (n := 11) (z := (-1)) X dX11_isGone_10 rfl rfl ?_
  refine g_callSi (n := 14) (As := [gJ a, gJ 0, gJ (-1)]) (rest := []) (cs1 := 0) (ss1 := 0) X (c_X11_within a 0 (-1) (by omega) (by omega) (by omega) (by omega)) okX11_within kw_3_29 kw_3_30 ⟨rfl, rfl⟩ ⟨Nat.le_of_ble_eq_true rfl, Nat.le_of_ble_eq_true rfl⟩ rfl rfl (Nat.le_of_ble_eq_true rfl) ⟨Nat.le_of_ble_eq_true rfl, Nat.le_of_ble_eq_true rfl⟩ rfl rfl dX11_isGone_11 rfl (fun z1 M2 P3 => ?_)
  obtain ⟨rfl, P3⟩ := P3
  exact g_zreturn X (by omega) hr dX11_isGone_14 (by exact ⟨rfl, by omega⟩)
theorem dX11_parish_0 : decode cX11_parish 0 = .ok (.iload_n 1, 1) := by decide +kernel
theorem dX11_parish_1 : decode cX11_parish 1 = .ok (.invokestatic 58, 3) := by decide +kernel
theorem kw_3_26 : (Jvm.Cond.methodLink "ParishUnion" (58 : Nat) ({ cls := "ParishUnion", name := "isParish", desc := "(I)Z" } : Jvm.MethodName)) ∈ gT := gT_of (tb_3 _ (List.mem_of_getElem? (i := 26) rfl)) rfl
theorem kw_3_28 : (Jvm.Cond.code ({ cls := "ParishUnion", name := "isParish", desc := "(I)Z" } : Jvm.MethodName) prog_1_method_49_code (1 : Nat) (Option.some Jvm.ClassFile.FieldType.boolean)) ∈ gT := gT_of (tb_3 _ (List.mem_of_getElem? (i := 28) rfl)) rfl
theorem okX11_isParish : gQok yX11_isParish cX11_isParish 1 (Option.some Jvm.ClassFile.FieldType.boolean) 1 := ⟨kw_3_28, kw_1_1, by decide +kernel, by decide +kernel, by decide +kernel⟩
theorem kw_3_27 : (Jvm.Cond.static ({ cls := "ParishUnion", name := "isParish", desc := "(I)Z" } : Jvm.MethodName)) ∈ gT := gT_of (tb_3 _ (List.mem_of_getElem? (i := 27) rfl)) rfl
theorem dX11_parish_4 : decode cX11_parish 4 = .ok (.ifCond .ne 5, 3) := by decide +kernel
theorem dX11_parish_9 : decode cX11_parish 9 = .ok (.iload_n 2, 1) := by decide +kernel
theorem dX11_parish_10 : decode cX11_parish 10 = .ok (.iconst 0, 1) := by decide +kernel
theorem dX11_parish_11 : decode cX11_parish 11 = .ok (.sipush 9999, 3) := by decide +kernel
theorem dX11_parish_14 : decode cX11_parish 14 = .ok (.invokestatic 62, 3) := by decide +kernel
theorem dX11_parish_17 : decode cX11_parish 17 = .ok (.ifCond .ne 6, 3) := by decide +kernel
theorem dX11_parish_23 : decode cX11_parish 23 = .ok (.aload_n 0, 1) := by decide +kernel
theorem dX11_parish_24 : decode cX11_parish 24 = .ok (.getfield 10, 3) := by decide +kernel
theorem dX11_parish_27 : decode cX11_parish 27 = .ok (.getfield 66, 3) := by decide +kernel
theorem kw_2_105 : (Jvm.Cond.fieldLink "ParishUnion" (66 : Nat) "ParishUnion$Union" "land" "LParishUnion$Land;") ∈ gT := gT_of (tb_2 _ (List.mem_of_getElem? (i := 105) rfl)) rfl
theorem dX11_parish_30 : decode cX11_parish 30 = .ok (.getfield 70, 3) := by decide +kernel
theorem kw_1_42 : (Jvm.Cond.fieldLink "ParishUnion" (70 : Nat) "ParishUnion$Land" "rents" "[I") ∈ gT := gT_of (tb_1 _ (List.mem_of_getElem? (i := 42) rfl)) rfl
theorem dX11_parish_33 : decode cX11_parish 33 = .ok (.iload_n 1, 1) := by decide +kernel
theorem dX11_parish_34 : decode cX11_parish 34 = .ok (.iaload, 1) := by decide +kernel
theorem dX11_parish_35 : decode cX11_parish 35 = .ok (.istore_n 3, 1) := by decide +kernel
theorem dX11_parish_36 : decode cX11_parish 36 = .ok (.aload_n 0, 1) := by decide +kernel
theorem dX11_parish_37 : decode cX11_parish 37 = .ok (.getfield 10, 3) := by decide +kernel
theorem dX11_parish_40 : decode cX11_parish 40 = .ok (.getfield 66, 3) := by decide +kernel
theorem dX11_parish_43 : decode cX11_parish 43 = .ok (.getfield 70, 3) := by decide +kernel
theorem dX11_parish_46 : decode cX11_parish 46 = .ok (.iload_n 1, 1) := by decide +kernel
theorem dX11_parish_47 : decode cX11_parish 47 = .ok (.iload_n 2, 1) := by decide +kernel
theorem dX11_parish_48 : decode cX11_parish 48 = .ok (.iastore, 1) := by decide +kernel
theorem dX11_parish_49 : decode cX11_parish 49 = .ok (.iload_n 3, 1) := by decide +kernel
theorem dX11_parish_50 : decode cX11_parish 50 = .ok (.ireturn, 1) := by decide +kernel
theorem dX11_parish_20 : decode cX11_parish 20 = .ok (.bipush (-2), 2) := by decide +kernel
theorem dX11_parish_22 : decode cX11_parish 22 = .ok (.ireturn, 1) := by decide +kernel
theorem dX11_parish_7 : decode cX11_parish 7 = .ok (.iconst (-1), 1) := by decide +kernel
theorem dX11_parish_8 : decode cX11_parish 8 = .ok (.ireturn, 1) := by decide +kernel
set_option maxRecDepth 100000 in
set_option maxHeartbeats 4000000 in
theorem c_X11_parish {l : Launch} {n0 : Nat} {D : va_G} {cA : Nat → ClassId} {M : gM} (a b : Int) (r_a : -2147483648 ≤ a ∧ a ≤ 2147483647) (r_b : -2147483648 ≤ b ∧ b ≤ 2147483647) {sz : Nat} (hsz : 206 ≤ sz) (f_0_0 : M 0 0 = 2) (f_1_0 : M 1 0 = 3) (f_2_0 : M 2 0 = 4) (rents : ∀ i : Int, 0 ≤ i → i < 6 → M 3 i = 100) : Met l yX11_parish (gWsOf yX11_parish cX11_parish 4 (Option.some Jvm.ClassFile.FieldType.int)) { frames := 2, cells := 0, slots := 0, locals := 42 } (gPc n0 D cA [gA n0 0, gJ a, gJ b] M sz) (gQi n0 D cA sz (fun z M1 => (((¬(0 ≤ a ∧ a ≤ 5)) → z = -1) ∧ (¬(¬(0 ≤ a ∧ a ≤ 5)) → (¬(0 ≤ b ∧ b ≤ 9999)) → z = -2) ∧ (¬(¬(0 ≤ a ∧ a ≤ 5)) → ¬(¬(0 ≤ b ∧ b ≤ 9999)) → (z = 100))) ∧ ∀ a : Int, a ≠ 3 → M1 a = M a)) 0 0 (fun q => n0 ≤ q) := by
  refine gMet_of [gA n0 0, gJ a, gJ b] (by decide) (Nat.le_of_ble_eq_true rfl) ?_
  intro p e s m args below meth cd X hr hm
  have X : gCx p s m args meth cd n0 D cA "ParishUnion" cX11_parish 4 := X
  show G p l e ({ frames := 2, cells := 0, slots := 0, locals := 42 } : Room) s m args below meth cd n0 D cA 4 (MQ below (gQi n0 D cA sz (fun z M1 => (((¬(0 ≤ a ∧ a ≤ 5)) → z = -1) ∧ (¬(¬(0 ≤ a ∧ a ≤ 5)) → (¬(0 ≤ b ∧ b ≤ 9999)) → z = -2) ∧ (¬(¬(0 ≤ a ∧ a ≤ 5)) → ¬(¬(0 ≤ b ∧ b ≤ 9999)) → (z = 100))) ∧ ∀ a : Int, a ≠ 3 → M1 a = M a)) args s 0 0 (fun q => n0 ≤ q)) 0 0 M sz 0 [(0, gA n0 0), (1, gJ a), (2, gJ b)] []
  refine g_iload_n (n := 1) X 1 dX11_parish_0 rfl rfl rfl ?_
  refine g_callSi (n := 4) (As := [gJ a]) (rest := []) (cs1 := 0) (ss1 := 0) X (c_X11_isParish a (by omega) (by omega)) okX11_isParish kw_3_26 kw_3_27 ⟨rfl, rfl⟩ ⟨Nat.le_of_ble_eq_true rfl, Nat.le_of_ble_eq_true rfl⟩ rfl rfl (Nat.le_of_ble_eq_true rfl) ⟨Nat.le_of_ble_eq_true rfl, Nat.le_of_ble_eq_true rfl⟩ rfl rfl dX11_parish_1 rfl (fun z1 M2 P3 => ?_)
  obtain ⟨rfl, P3⟩ := P3
  refine g_if_ne (n := 7) (tgt := 9) X dX11_parish_4 (by decide) (by omega) rfl (fun c4 => ?_) (fun c4 => ?_)
  · refine g_iload_n (n := 10) X 2 dX11_parish_9 rfl rfl rfl ?_
    refine g_iconst (n := 11) X dX11_parish_10 rfl ?_
    refine g_sipush (n := 14) X dX11_parish_11 (by decide +kernel) rfl ?_
    refine g_callSi (n := 17) (As := [gJ b, gJ 0, gJ 9999]) (rest := []) (cs1 := 0) (ss1 := 0) X (c_X11_within b 0 9999 (by omega) (by omega) (by omega) (by omega)) okX11_within kw_3_29 kw_3_30 ⟨rfl, rfl⟩ ⟨Nat.le_of_ble_eq_true rfl, Nat.le_of_ble_eq_true rfl⟩ rfl rfl (Nat.le_of_ble_eq_true rfl) ⟨Nat.le_of_ble_eq_true rfl, Nat.le_of_ble_eq_true rfl⟩ rfl rfl dX11_parish_14 rfl (fun z5 M6 P7 => ?_)
    obtain ⟨rfl, P7⟩ := P7
    refine g_if_ne (n := 20) (tgt := 23) X dX11_parish_17 (by decide) (by omega) rfl (fun c8 => ?_) (fun c8 => ?_)
    · refine g_aload_n (n := 24) X 0 dX11_parish_23 rfl rfl rfl ?_
      refine gg_11_0 (n := 27) (z := 1) X (by omega) (by omega) lay_0 kw_2_231 dX11_parish_24 rfl f_0_0 (by omega) ?_
      refine gg_9_0 (n := 30) (z := 2) X (by omega) (by omega) lay_1 kw_2_105 dX11_parish_27 rfl f_1_0 (by omega) ?_
      refine gg_3_0 (n := 33) (z := 3) X (by omega) (by omega) lay_2 kw_1_42 dX11_parish_30 rfl f_2_0 (by omega) ?_
      refine g_iload_n (n := 34) X 1 dX11_parish_33 rfl rfl rfl ?_
      refine g_iald (n := 35) X (by omega) (by omega) lay_3 (by omega) (by omega) (by omega) dX11_parish_34 rfl ?_
      rw [show M 3 a = 100 from (rents _ (by omega) (by omega))]
      refine g_istore_n (n := 36) (L' := [(3, gJ 100), (0, gA n0 0), (1, gJ a), (2, gJ b)]) X dX11_parish_35 rfl (by decide) rfl rfl ?_
      refine g_aload_n (n := 37) X 1 dX11_parish_36 rfl rfl rfl ?_
      refine gg_11_0 (n := 40) (z := 1) X (by omega) (by omega) lay_0 kw_2_231 dX11_parish_37 rfl f_0_0 (by omega) ?_
      refine gg_9_0 (n := 43) (z := 2) X (by omega) (by omega) lay_1 kw_2_105 dX11_parish_40 rfl f_1_0 (by omega) ?_
      refine gg_3_0 (n := 46) (z := 3) X (by omega) (by omega) lay_2 kw_1_42 dX11_parish_43 rfl f_2_0 (by omega) ?_
      refine g_iload_n (n := 47) X 2 dX11_parish_46 rfl rfl rfl ?_
      refine g_iload_n (n := 48) X 3 dX11_parish_47 rfl rfl rfl ?_
      refine g_iast (n := 49) X (by omega) (by omega) lay_3 (by omega) (by omega) (by omega) dX11_parish_48 rfl ?_
      refine G.nm (fun M9 e10 => ?_)
      refine g_iload_n (n := 50) X 0 dX11_parish_49 rfl rfl rfl ?_
      exact g_ireturn X hr dX11_parish_50 (by exact ⟨by omega, fun a h0 => ((congrFun e10 a).trans ((gset_off a (by omega)).trans rfl))⟩)
    · refine g_bipush (n := 22) X dX11_parish_20 (by decide +kernel) rfl ?_
      exact g_ireturn X hr dX11_parish_22 (by exact ⟨by omega, fun a h0 => rfl⟩)
  · refine g_iconst (n := 8) X dX11_parish_7 rfl ?_
    exact g_ireturn X hr dX11_parish_8 (by exact ⟨by omega, fun a h0 => rfl⟩)
theorem dX11_price_0 : decode cX11_price 0 = .ok (.iload_n 1, 1) := by decide +kernel
theorem dX11_price_1 : decode cX11_price 1 = .ok (.iconst 0, 1) := by decide +kernel
theorem dX11_price_2 : decode cX11_price 2 = .ok (.bipush 99, 2) := by decide +kernel
theorem dX11_price_4 : decode cX11_price 4 = .ok (.invokestatic 62, 3) := by decide +kernel
theorem dX11_price_7 : decode cX11_price 7 = .ok (.ifCond .ne 6, 3) := by decide +kernel
theorem dX11_price_13 : decode cX11_price 13 = .ok (.aload_n 0, 1) := by decide +kernel
theorem dX11_price_14 : decode cX11_price 14 = .ok (.getfield 10, 3) := by decide +kernel
theorem dX11_price_17 : decode cX11_price 17 = .ok (.getfield 279, 3) := by decide +kernel
theorem kw_2_119 : (Jvm.Cond.fieldLink "ParishUnion" (279 : Nat) "ParishUnion$Union" "house" "LParishUnion$House;") ∈ gT := gT_of (tb_2 _ (List.mem_of_getElem? (i := 119) rfl)) rfl
theorem dX11_price_20 : decode cX11_price 20 = .ok (.getfield 288, 3) := by decide +kernel
theorem kw_1_114 : (Jvm.Cond.fieldLink "ParishUnion" (288 : Nat) "ParishUnion$House" "price" "I") ∈ gT := gT_of (tb_1 _ (List.mem_of_getElem? (i := 114) rfl)) rfl
theorem dX11_price_23 : decode cX11_price 23 = .ok (.istore_n 2, 1) := by decide +kernel
theorem dX11_price_24 : decode cX11_price 24 = .ok (.aload_n 0, 1) := by decide +kernel
theorem dX11_price_25 : decode cX11_price 25 = .ok (.getfield 10, 3) := by decide +kernel
theorem dX11_price_28 : decode cX11_price 28 = .ok (.getfield 279, 3) := by decide +kernel
theorem dX11_price_31 : decode cX11_price 31 = .ok (.iload_n 1, 1) := by decide +kernel
theorem dX11_price_32 : decode cX11_price 32 = .ok (.putfield 288, 3) := by decide +kernel
theorem dX11_price_35 : decode cX11_price 35 = .ok (.iload_n 2, 1) := by decide +kernel
theorem dX11_price_36 : decode cX11_price 36 = .ok (.ireturn, 1) := by decide +kernel
theorem dX11_price_10 : decode cX11_price 10 = .ok (.bipush (-2), 2) := by decide +kernel
theorem dX11_price_12 : decode cX11_price 12 = .ok (.ireturn, 1) := by decide +kernel
set_option maxRecDepth 100000 in
set_option maxHeartbeats 4000000 in
theorem c_X11_price {l : Launch} {n0 : Nat} {D : va_G} {cA : Nat → ClassId} {M : gM} (a : Int) (r_a : -2147483648 ≤ a ∧ a ≤ 2147483647) {sz : Nat} (hsz : 206 ≤ sz) (f_0_0 : M 0 0 = 2) (f_1_6 : M 1 6 = 16) (f_15_9 : M 15 9 = 1) : Met l yX11_price (gWsOf yX11_price cX11_price 3 (Option.some Jvm.ClassFile.FieldType.int)) { frames := 1, cells := 0, slots := 0, locals := 22 } (gPc n0 D cA [gA n0 0, gJ a] M sz) (gQi n0 D cA sz (fun z M1 => (((¬(0 ≤ a ∧ a ≤ 99)) → z = -2) ∧ (¬(¬(0 ≤ a ∧ a ≤ 99)) → (z = 1))) ∧ ∀ a : Int, a ≠ 15 → M1 a = M a)) 0 0 (fun q => n0 ≤ q) := by
  refine gMet_of [gA n0 0, gJ a] (by decide) (Nat.le_of_ble_eq_true rfl) ?_
  intro p e s m args below meth cd X hr hm
  have X : gCx p s m args meth cd n0 D cA "ParishUnion" cX11_price 3 := X
  show G p l e ({ frames := 1, cells := 0, slots := 0, locals := 22 } : Room) s m args below meth cd n0 D cA 3 (MQ below (gQi n0 D cA sz (fun z M1 => (((¬(0 ≤ a ∧ a ≤ 99)) → z = -2) ∧ (¬(¬(0 ≤ a ∧ a ≤ 99)) → (z = 1))) ∧ ∀ a : Int, a ≠ 15 → M1 a = M a)) args s 0 0 (fun q => n0 ≤ q)) 0 0 M sz 0 [(0, gA n0 0), (1, gJ a)] []
  refine g_iload_n (n := 1) X 1 dX11_price_0 rfl rfl rfl ?_
  refine g_iconst (n := 2) X dX11_price_1 rfl ?_
  refine g_bipush (n := 4) X dX11_price_2 (by decide +kernel) rfl ?_
  refine g_callSi (n := 7) (As := [gJ a, gJ 0, gJ 99]) (rest := []) (cs1 := 0) (ss1 := 0) X (c_X11_within a 0 99 (by omega) (by omega) (by omega) (by omega)) okX11_within kw_3_29 kw_3_30 ⟨rfl, rfl⟩ ⟨Nat.le_of_ble_eq_true rfl, Nat.le_of_ble_eq_true rfl⟩ rfl rfl (Nat.le_of_ble_eq_true rfl) ⟨Nat.le_of_ble_eq_true rfl, Nat.le_of_ble_eq_true rfl⟩ rfl rfl dX11_price_4 rfl (fun z1 M2 P3 => ?_)
  obtain ⟨rfl, P3⟩ := P3
  refine g_if_ne (n := 10) (tgt := 13) X dX11_price_7 (by decide) (by omega) rfl (fun c4 => ?_) (fun c4 => ?_)
  · refine g_aload_n (n := 14) X 0 dX11_price_13 rfl rfl rfl ?_
    refine gg_11_0 (n := 17) (z := 1) X (by omega) (by omega) lay_0 kw_2_231 dX11_price_14 rfl f_0_0 (by omega) ?_
    refine gg_9_6 (n := 20) (z := 15) X (by omega) (by omega) lay_1 kw_2_119 dX11_price_17 rfl f_1_6 (by omega) ?_
    refine gg_2_9 (n := 23) (z := 1) X (by omega) (by omega) lay_15 kw_1_114 dX11_price_20 rfl f_15_9 ?_
    refine g_istore_n (n := 24) (L' := [(2, gJ 1), (0, gA n0 0), (1, gJ a)]) X dX11_price_23 rfl (by decide) rfl rfl ?_
    refine g_aload_n (n := 25) X 1 dX11_price_24 rfl rfl rfl ?_
    refine gg_11_0 (n := 28) (z := 1) X (by omega) (by omega) lay_0 kw_2_231 dX11_price_25 rfl f_0_0 (by omega) ?_
    refine gg_9_6 (n := 31) (z := 15) X (by omega) (by omega) lay_1 kw_2_119 dX11_price_28 rfl f_1_6 (by omega) ?_
    refine g_iload_n (n := 32) X 2 dX11_price_31 rfl rfl rfl ?_
    refine gp_2_9 (n := 35) X (by omega) (by omega) lay_15 kw_1_114 dX11_price_32 rfl ?_
    refine G.nm (fun M5 e6 => ?_)
    refine g_iload_n (n := 36) X 0 dX11_price_35 rfl rfl rfl ?_
    exact g_ireturn X hr dX11_price_36 (by exact ⟨by omega, fun a h0 => ((congrFun e6 a).trans ((gset_off a (by omega)).trans rfl))⟩)
  · refine g_bipush (n := 12) X dX11_price_10 (by decide +kernel) rfl ?_
    exact g_ireturn X hr dX11_price_12 (by exact ⟨by omega, fun a h0 => rfl⟩)
theorem dX3_distance_0 : decode cX3_distance 0 = .ok (.aload_n 0, 1) := by decide +kernel
theorem dX3_distance_1 : decode cX3_distance 1 = .ok (.getfield 15, 3) := by decide +kernel
theorem kw_1_43 : (Jvm.Cond.fieldLink "ParishUnion$Land" (15 : Nat) "ParishUnion$Land" "way" "[I") ∈ gT := gT_of (tb_1 _ (List.mem_of_getElem? (i := 43) rfl)) rfl
theorem dX3_distance_4 : decode cX3_distance 4 = .ok (.iload_n 1, 1) := by decide +kernel
theorem dX3_distance_5 : decode cX3_distance 5 = .ok (.bipush 6, 2) := by decide +kernel
theorem dX3_distance_7 : decode cX3_distance 7 = .ok (.imul, 1) := by decide +kernel
theorem dX3_distance_8 : decode cX3_distance 8 = .ok (.iload_n 2, 1) := by decide +kernel
theorem dX3_distance_9 : decode cX3_distance 9 = .ok (.iadd, 1) := by decide +kernel
theorem dX3_distance_10 : decode cX3_distance 10 = .ok (.iaload, 1) := by decide +kernel
theorem dX3_distance_11 : decode cX3_distance 11 = .ok (.ireturn, 1) := by decide +kernel
set_option maxRecDepth 100000 in
set_option maxHeartbeats 4000000 in
theorem c_X3_distance {l : Launch} {n0 : Nat} {D : va_G} {cA : Nat → ClassId} {M : gM} (a b : Int) (r_a : -2147483648 ≤ a ∧ a ≤ 2147483647) (r_b : -2147483648 ≤ b ∧ b ≤ 2147483647) {sz : Nat} (hsz : 206 ≤ sz) (f_2_1 : M 2 1 = 5) (hab : 0 ≤ a ∧ a ≤ 5 ∧ 0 ≤ b ∧ b ≤ 5) (way : ∀ i : Int, 0 ≤ i → i < 36 → (i % 7 = 0 → M 4 i = 0) ∧ (¬ i % 7 = 0 → M 4 i = 99)) : Met l yX3_distance (gWsOf yX3_distance cX3_distance 3 (Option.some Jvm.ClassFile.FieldType.int)) { frames := 0, cells := 0, slots := 0, locals := 0 } (gPc n0 D cA [gA n0 2, gJ a, gJ b] M sz) (gQi n0 D cA sz (fun z M1 => M = M1 ∧ ((a = b → z = 0) ∧ (¬ a = b → z = 99)))) 0 0 (fun q => n0 ≤ q) := by
  refine gMet_of [gA n0 2, gJ a, gJ b] (by decide) (Nat.le_of_ble_eq_true rfl) ?_
  intro p e s m args below meth cd X hr hm
  have X : gCx p s m args meth cd n0 D cA "ParishUnion$Land" cX3_distance 3 := X
  show G p l e ({ frames := 0, cells := 0, slots := 0, locals := 0 } : Room) s m args below meth cd n0 D cA 3 (MQ below (gQi n0 D cA sz (fun z M1 => M = M1 ∧ ((a = b → z = 0) ∧ (¬ a = b → z = 99)))) args s 0 0 (fun q => n0 ≤ q)) 0 0 M sz 0 [(0, gA n0 2), (1, gJ a), (2, gJ b)] []
  refine g_aload_n (n := 1) X 0 dX3_distance_0 rfl rfl rfl ?_
  refine gg_3_1 (n := 4) (z := 4) X (by omega) (by omega) lay_2 kw_1_43 dX3_distance_1 rfl f_2_1 (by omega) ?_
  refine g_iload_n (n := 5) X 1 dX3_distance_4 rfl rfl rfl ?_
  refine g_bipush (n := 7) X dX3_distance_5 (by decide +kernel) rfl ?_
  refine g_imul (n := 8) (z := a * 6) X dX3_distance_7 rfl rfl ?_
  refine g_iload_n (n := 9) X 2 dX3_distance_8 rfl rfl rfl ?_
  refine g_iadd (n := 10) (z := (a * 6) + b) X dX3_distance_9 rfl rfl ?_
  refine g_iald (n := 11) X (by omega) (by omega) lay_4 (by omega) (by omega) (by omega) dX3_distance_10 rfl ?_
  exact g_ireturn X hr dX3_distance_11 (by exact ⟨rfl, by have hw := way (a * 6 + b) (by omega) (by omega); omega⟩)
theorem dX11_far_0 : decode cX11_far 0 = .ok (.iload_n 1, 1) := by decide +kernel
theorem dX11_far_1 : decode cX11_far 1 = .ok (.invokestatic 58, 3) := by decide +kernel
theorem dX11_far_4 : decode cX11_far 4 = .ok (.ifCond .eq 10, 3) := by decide +kernel
theorem dX11_far_14 : decode cX11_far 14 = .ok (.iconst (-1), 1) := by decide +kernel
theorem dX11_far_15 : decode cX11_far 15 = .ok (.ireturn, 1) := by decide +kernel
theorem dX11_far_7 : decode cX11_far 7 = .ok (.iload_n 2, 1) := by decide +kernel
theorem dX11_far_8 : decode cX11_far 8 = .ok (.invokestatic 58, 3) := by decide +kernel
theorem dX11_far_11 : decode cX11_far 11 = .ok (.ifCond .ne 5, 3) := by decide +kernel
theorem dX11_far_16 : decode cX11_far 16 = .ok (.aload_n 0, 1) := by decide +kernel
theorem dX11_far_17 : decode cX11_far 17 = .ok (.getfield 10, 3) := by decide +kernel
theorem dX11_far_20 : decode cX11_far 20 = .ok (.getfield 66, 3) := by decide +kernel
theorem dX11_far_23 : decode cX11_far 23 = .ok (.iload_n 1, 1) := by decide +kernel
theorem dX11_far_24 : decode cX11_far 24 = .ok (.iload_n 2, 1) := by decide +kernel
theorem dX11_far_25 : decode cX11_far 25 = .ok (.invokevirtual 78, 3) := by decide +kernel
theorem kw_3_51 : (Jvm.Cond.methodLink "ParishUnion" (78 : Nat) ({ cls := "ParishUnion$Land", name := "distance", desc := "(II)I" } : Jvm.MethodName)) ∈ gT := gT_of (tb_3 _ (List.mem_of_getElem? (i := 51) rfl)) rfl
theorem kw_3_43 : (Jvm.Cond.code ({ cls := "ParishUnion$Land", name := "distance", desc := "(II)I" } : Jvm.MethodName) prog_5_method_3_code (3 : Nat) (Option.some Jvm.ClassFile.FieldType.int)) ∈ gT := gT_of (tb_3 _ (List.mem_of_getElem? (i := 43) rfl)) rfl
theorem kw_1_3 : (Jvm.Cond.initialized "ParishUnion$Land") ∈ gT := gT_of (tb_1 _ (List.mem_of_getElem? (i := 3) rfl)) rfl
theorem okX3_distance : gQok yX3_distance cX3_distance 3 (Option.some Jvm.ClassFile.FieldType.int) 2 := ⟨kw_3_43, kw_1_3, by decide +kernel, by decide +kernel, by decide +kernel⟩
theorem kw_3_41 : (Jvm.Cond.instanceMethod ({ cls := "ParishUnion$Land", name := "distance", desc := "(II)I" } : Jvm.MethodName)) ∈ gT := gT_of (tb_3 _ (List.mem_of_getElem? (i := 41) rfl)) rfl
theorem kw_3_42 : (Jvm.Cond.selects "ParishUnion$Land" ({ cls := "ParishUnion$Land", name := "distance", desc := "(II)I" } : Jvm.MethodName) ({ cls := "ParishUnion$Land", name := "distance", desc := "(II)I" } : Jvm.MethodName)) ∈ gT := gT_of (tb_3 _ (List.mem_of_getElem? (i := 42) rfl)) rfl
theorem dX11_far_28 : decode cX11_far 28 = .ok (.ireturn, 1) := by decide +kernel
set_option maxRecDepth 100000 in
set_option maxHeartbeats 4000000 in
theorem c_X11_far {l : Launch} {n0 : Nat} {D : va_G} {cA : Nat → ClassId} {M : gM} (a b : Int) (r_a : -2147483648 ≤ a ∧ a ≤ 2147483647) (r_b : -2147483648 ≤ b ∧ b ≤ 2147483647) {sz : Nat} (hsz : 206 ≤ sz) (f_0_0 : M 0 0 = 2) (f_1_0 : M 1 0 = 3) (f_2_1 : M 2 1 = 5) (way : ∀ i : Int, 0 ≤ i → i < 36 → (i % 7 = 0 → M 4 i = 0) ∧ (¬ i % 7 = 0 → M 4 i = 99)) : Met l yX11_far (gWsOf yX11_far cX11_far 3 (Option.some Jvm.ClassFile.FieldType.int)) { frames := 2, cells := 0, slots := 0, locals := 42 } (gPc n0 D cA [gA n0 0, gJ a, gJ b] M sz) (gQi n0 D cA sz (fun z M1 => (((¬(0 ≤ a ∧ a ≤ 5) ∨ ¬(0 ≤ b ∧ b ≤ 5)) → z = -1) ∧ (¬(¬(0 ≤ a ∧ a ≤ 5) ∨ ¬(0 ≤ b ∧ b ≤ 5)) → ((a = b → z = 0) ∧ (¬ a = b → z = 99)))) ∧ ∀ a : Int, M1 a = M a)) 0 0 (fun q => n0 ≤ q) := by
  refine gMet_of [gA n0 0, gJ a, gJ b] (by decide) (Nat.le_of_ble_eq_true rfl) ?_
  intro p e s m args below meth cd X hr hm
  have X : gCx p s m args meth cd n0 D cA "ParishUnion" cX11_far 3 := X
  show G p l e ({ frames := 2, cells := 0, slots := 0, locals := 42 } : Room) s m args below meth cd n0 D cA 3 (MQ below (gQi n0 D cA sz (fun z M1 => (((¬(0 ≤ a ∧ a ≤ 5) ∨ ¬(0 ≤ b ∧ b ≤ 5)) → z = -1) ∧ (¬(¬(0 ≤ a ∧ a ≤ 5) ∨ ¬(0 ≤ b ∧ b ≤ 5)) → ((a = b → z = 0) ∧ (¬ a = b → z = 99)))) ∧ ∀ a : Int, M1 a = M a)) args s 0 0 (fun q => n0 ≤ q)) 0 0 M sz 0 [(0, gA n0 0), (1, gJ a), (2, gJ b)] []
  refine g_iload_n (n := 1) X 1 dX11_far_0 rfl rfl rfl ?_
  refine g_callSi (n := 4) (As := [gJ a]) (rest := []) (cs1 := 0) (ss1 := 0) X (c_X11_isParish a (by omega) (by omega)) okX11_isParish kw_3_26 kw_3_27 ⟨rfl, rfl⟩ ⟨Nat.le_of_ble_eq_true rfl, Nat.le_of_ble_eq_true rfl⟩ rfl rfl (Nat.le_of_ble_eq_true rfl) ⟨Nat.le_of_ble_eq_true rfl, Nat.le_of_ble_eq_true rfl⟩ rfl rfl dX11_far_1 rfl (fun z1 M2 P3 => ?_)
  obtain ⟨rfl, P3⟩ := P3
  refine g_if_eq (n := 7) (tgt := 14) X dX11_far_4 (by decide) (by omega) rfl (fun c4 => ?_) (fun c4 => ?_)
  · refine g_iconst (n := 15) X dX11_far_14 rfl ?_
    exact g_ireturn X hr dX11_far_15 (by exact ⟨by omega, fun a  => rfl⟩)
  · refine g_iload_n (n := 8) X 2 dX11_far_7 rfl rfl rfl ?_
    refine g_callSi (n := 11) (As := [gJ b]) (rest := []) (cs1 := 0) (ss1 := 0) X (c_X11_isParish b (by omega) (by omega)) okX11_isParish kw_3_26 kw_3_27 ⟨rfl, rfl⟩ ⟨Nat.le_of_ble_eq_true rfl, Nat.le_of_ble_eq_true rfl⟩ rfl rfl (Nat.le_of_ble_eq_true rfl) ⟨Nat.le_of_ble_eq_true rfl, Nat.le_of_ble_eq_true rfl⟩ rfl rfl dX11_far_8 rfl (fun z5 M6 P7 => ?_)
    obtain ⟨rfl, P7⟩ := P7
    refine g_if_ne (n := 14) (tgt := 16) X dX11_far_11 (by decide) (by omega) rfl (fun c8 => ?_) (fun c8 => ?_)
    · refine g_aload_n (n := 17) X 0 dX11_far_16 rfl rfl rfl ?_
      refine gg_11_0 (n := 20) (z := 1) X (by omega) (by omega) lay_0 kw_2_231 dX11_far_17 rfl f_0_0 (by omega) ?_
      refine gg_9_0 (n := 23) (z := 2) X (by omega) (by omega) lay_1 kw_2_105 dX11_far_20 rfl f_1_0 (by omega) ?_
      refine g_iload_n (n := 24) X 1 dX11_far_23 rfl rfl rfl ?_
      refine g_iload_n (n := 25) X 2 dX11_far_24 rfl rfl rfl ?_
      refine g_callVi (n := 28) (As := [gJ a, gJ b]) (rest := []) (cs1 := 0) (ss1 := 0) X (c_X3_distance a b (by omega) (by omega) (by omega) f_2_1 (by omega) way) okX3_distance kw_3_51 ⟨kw_3_41, kw_3_42⟩ ⟨rfl, rfl⟩ ⟨Nat.le_of_ble_eq_true rfl, Nat.le_of_ble_eq_true rfl⟩ rfl (by omega) (by omega) lay_2 rfl rfl (Nat.le_of_ble_eq_true rfl) ⟨Nat.le_of_ble_eq_true rfl, Nat.le_of_ble_eq_true rfl⟩ rfl rfl dX11_far_25 rfl (fun z9 M10 P11 => ?_)
      obtain ⟨rfl, P11⟩ := P11
      exact g_ireturn X hr dX11_far_28 (by exact ⟨by omega, fun a  => rfl⟩)
    · refine g_iconst (n := 15) X dX11_far_14 rfl ?_
      exact g_ireturn X hr dX11_far_15 (by exact ⟨by omega, fun a  => rfl⟩)
theorem dX6_goTo_0 : decode cX6_goTo 0 = .ok (.aload_n 0, 1) := by decide +kernel
theorem dX6_goTo_1 : decode cX6_goTo 1 = .ok (.iload_n 1, 1) := by decide +kernel
theorem dX6_goTo_2 : decode cX6_goTo 2 = .ok (.putfield 40, 3) := by decide +kernel
theorem kw_1_191 : (Jvm.Cond.fieldLink "ParishUnion$Person" (40 : Nat) "ParishUnion$Person" "at" "I") ∈ gT := gT_of (tb_1 _ (List.mem_of_getElem? (i := 191) rfl)) rfl
theorem dX6_goTo_5 : decode cX6_goTo 5 = .ok (.aload_n 0, 1) := by decide +kernel
theorem dX6_goTo_6 : decode cX6_goTo 6 = .ok (.iconst (-1), 1) := by decide +kernel
theorem dX6_goTo_7 : decode cX6_goTo 7 = .ok (.putfield 43, 3) := by decide +kernel
theorem kw_1_203 : (Jvm.Cond.fieldLink "ParishUnion$Person" (43 : Nat) "ParishUnion$Person" "ward" "I") ∈ gT := gT_of (tb_1 _ (List.mem_of_getElem? (i := 203) rfl)) rfl
theorem dX6_goTo_10 : decode cX6_goTo 10 = .ok (.aload_n 0, 1) := by decide +kernel
theorem dX6_goTo_11 : decode cX6_goTo 11 = .ok (.iconst (-1), 1) := by decide +kernel
theorem dX6_goTo_12 : decode cX6_goTo 12 = .ok (.putfield 46, 3) := by decide +kernel
theorem kw_1_206 : (Jvm.Cond.fieldLink "ParishUnion$Person" (46 : Nat) "ParishUnion$Person" "master" "I") ∈ gT := gT_of (tb_1 _ (List.mem_of_getElem? (i := 206) rfl)) rfl
theorem dX6_goTo_15 : decode cX6_goTo 15 = .ok (.aload_n 0, 1) := by decide +kernel
theorem dX6_goTo_16 : decode cX6_goTo 16 = .ok (.iconst (-1), 1) := by decide +kernel
theorem dX6_goTo_17 : decode cX6_goTo 17 = .ok (.putfield 49, 3) := by decide +kernel
theorem kw_1_209 : (Jvm.Cond.fieldLink "ParishUnion$Person" (49 : Nat) "ParishUnion$Person" "askedFrom" "I") ∈ gT := gT_of (tb_1 _ (List.mem_of_getElem? (i := 209) rfl)) rfl
theorem dX6_goTo_20 : decode cX6_goTo 20 = .ok (.return_, 1) := by decide +kernel
set_option maxRecDepth 100000 in
set_option maxHeartbeats 4000000 in
theorem c_X6_goTo {l : Launch} {n0 : Nat} {D : va_G} {cA : Nat → ClassId} {M : gM} (a : Int) (r_a : -2147483648 ≤ a ∧ a ≤ 2147483647) {sz : Nat} (hsz : 206 ≤ sz) : Met l yX6_goTo (gWsOf yX6_goTo cX6_goTo 2 (Option.none : Option Jvm.ClassFile.FieldType)) { frames := 0, cells := 0, slots := 0, locals := 0 } (gPc n0 D cA [gA n0 31, gJ a] M sz) (gQv n0 D cA sz (fun M1 => ∀ a : Int, a ≠ 31 → M1 a = M a)) 0 0 (fun q => n0 ≤ q) := by
  refine gMet_of [gA n0 31, gJ a] (by decide) (Nat.le_of_ble_eq_true rfl) ?_
  intro p e s m args below meth cd X hr hm
  have X : gCx p s m args meth cd n0 D cA "ParishUnion$Person" cX6_goTo 2 := X
  show G p l e ({ frames := 0, cells := 0, slots := 0, locals := 0 } : Room) s m args below meth cd n0 D cA 2 (MQ below (gQv n0 D cA sz (fun M1 => ∀ a : Int, a ≠ 31 → M1 a = M a)) args s 0 0 (fun q => n0 ≤ q)) 0 0 M sz 0 [(0, gA n0 31), (1, gJ a)] []
  refine g_aload_n (n := 1) X 0 dX6_goTo_0 rfl rfl rfl ?_
  refine g_iload_n (n := 2) X 1 dX6_goTo_1 rfl rfl rfl ?_
  refine gp_6_5 (n := 5) X (by omega) (by omega) lay_31 kw_1_191 dX6_goTo_2 rfl ?_
  refine G.nm (fun M1 e2 => ?_)
  refine g_aload_n (n := 6) X 0 dX6_goTo_5 rfl rfl rfl ?_
  refine g_iconst (n := 7) X dX6_goTo_6 rfl ?_
  refine gp_6_8 (n := 10) X (by omega) (by omega) lay_31 kw_1_203 dX6_goTo_7 rfl ?_
  refine G.nm (fun M3 e4 => ?_)
  refine g_aload_n (n := 11) X 0 dX6_goTo_10 rfl rfl rfl ?_
  refine g_iconst (n := 12) X dX6_goTo_11 rfl ?_
  refine gp_6_9 (n := 15) X (by omega) (by omega) lay_31 kw_1_206 dX6_goTo_12 rfl ?_
  refine G.nm (fun M5 e6 => ?_)
  refine g_aload_n (n := 16) X 0 dX6_goTo_15 rfl rfl rfl ?_
  refine g_iconst (n := 17) X dX6_goTo_16 rfl ?_
  refine gp_6_10 (n := 20) X (by omega) (by omega) lay_31 kw_1_209 dX6_goTo_17 rfl ?_
  refine G.nm (fun M7 e8 => ?_)
  exact g_return X hr dX6_goTo_20 (by exact (fun a h0 => ((congrFun e8 a).trans ((gset_off a (by omega)).trans ((congrFun e6 a).trans ((gset_off a (by omega)).trans ((congrFun e4 a).trans ((gset_off a (by omega)).trans ((congrFun e2 a).trans ((gset_off a (by omega)).trans rfl))))))))))
theorem dX6_begin_0 : decode cX6_begin 0 = .ok (.aload_n 0, 1) := by decide +kernel
theorem dX6_begin_1 : decode cX6_begin 1 = .ok (.iload_n 1, 1) := by decide +kernel
theorem dX6_begin_2 : decode cX6_begin 2 = .ok (.putfield 9, 3) := by decide +kernel
theorem kw_1_175 : (Jvm.Cond.fieldLink "ParishUnion$Person" (9 : Nat) "ParishUnion$Person" "sex" "I") ∈ gT := gT_of (tb_1 _ (List.mem_of_getElem? (i := 175) rfl)) rfl
theorem dX6_begin_5 : decode cX6_begin 5 = .ok (.aload_n 0, 1) := by decide +kernel
theorem dX6_begin_6 : decode cX6_begin 6 = .ok (.iload_n 2, 1) := by decide +kernel
theorem dX6_begin_7 : decode cX6_begin 7 = .ok (.putfield 15, 3) := by decide +kernel
theorem kw_1_178 : (Jvm.Cond.fieldLink "ParishUnion$Person" (15 : Nat) "ParishUnion$Person" "born" "I") ∈ gT := gT_of (tb_1 _ (List.mem_of_getElem? (i := 178) rfl)) rfl
theorem dX6_begin_10 : decode cX6_begin 10 = .ok (.aload_n 0, 1) := by decide +kernel
theorem dX6_begin_11 : decode cX6_begin 11 = .ok (.iload_n 3, 1) := by decide +kernel
theorem dX6_begin_12 : decode cX6_begin 12 = .ok (.putfield 18, 3) := by decide +kernel
theorem kw_1_181 : (Jvm.Cond.fieldLink "ParishUnion$Person" (18 : Nat) "ParishUnion$Person" "birthplace" "I") ∈ gT := gT_of (tb_1 _ (List.mem_of_getElem? (i := 181) rfl)) rfl
theorem dX6_begin_15 : decode cX6_begin 15 = .ok (.aload_n 0, 1) := by decide +kernel
theorem dX6_begin_16 : decode cX6_begin 16 = .ok (.iload 4, 2) := by decide +kernel
theorem dX6_begin_18 : decode cX6_begin 18 = .ok (.putfield 21, 3) := by decide +kernel
theorem kw_1_184 : (Jvm.Cond.fieldLink "ParishUnion$Person" (21 : Nat) "ParishUnion$Person" "father" "I") ∈ gT := gT_of (tb_1 _ (List.mem_of_getElem? (i := 184) rfl)) rfl
theorem dX6_begin_21 : decode cX6_begin 21 = .ok (.aload_n 0, 1) := by decide +kernel
theorem dX6_begin_22 : decode cX6_begin 22 = .ok (.iload 5, 2) := by decide +kernel
theorem dX6_begin_24 : decode cX6_begin 24 = .ok (.putfield 24, 3) := by decide +kernel
theorem kw_1_187 : (Jvm.Cond.fieldLink "ParishUnion$Person" (24 : Nat) "ParishUnion$Person" "strength" "I") ∈ gT := gT_of (tb_1 _ (List.mem_of_getElem? (i := 187) rfl)) rfl
theorem dX6_begin_27 : decode cX6_begin 27 = .ok (.aload_n 0, 1) := by decide +kernel
theorem dX6_begin_28 : decode cX6_begin 28 = .ok (.iconst 0, 1) := by decide +kernel
theorem dX6_begin_29 : decode cX6_begin 29 = .ok (.putfield 27, 3) := by decide +kernel
theorem kw_1_196 : (Jvm.Cond.fieldLink "ParishUnion$Person" (27 : Nat) "ParishUnion$Person" "hunger" "I") ∈ gT := gT_of (tb_1 _ (List.mem_of_getElem? (i := 196) rfl)) rfl
theorem dX6_begin_32 : decode cX6_begin 32 = .ok (.aload_n 0, 1) := by decide +kernel
theorem dX6_begin_33 : decode cX6_begin 33 = .ok (.iconst 0, 1) := by decide +kernel
theorem dX6_begin_34 : decode cX6_begin 34 = .ok (.putfield 30, 3) := by decide +kernel
theorem kw_1_200 : (Jvm.Cond.fieldLink "ParishUnion$Person" (30 : Nat) "ParishUnion$Person" "ill" "I") ∈ gT := gT_of (tb_1 _ (List.mem_of_getElem? (i := 200) rfl)) rfl
theorem dX6_begin_37 : decode cX6_begin 37 = .ok (.aload_n 0, 1) := by decide +kernel
theorem dX6_begin_38 : decode cX6_begin 38 = .ok (.iconst 0, 1) := by decide +kernel
theorem dX6_begin_39 : decode cX6_begin 39 = .ok (.putfield 33, 3) := by decide +kernel
theorem kw_1_212 : (Jvm.Cond.fieldLink "ParishUnion$Person" (33 : Nat) "ParishUnion$Person" "toldAt" "I") ∈ gT := gT_of (tb_1 _ (List.mem_of_getElem? (i := 212) rfl)) rfl
theorem dX6_begin_42 : decode cX6_begin 42 = .ok (.aload_n 0, 1) := by decide +kernel
theorem dX6_begin_43 : decode cX6_begin 43 = .ok (.iload_n 3, 1) := by decide +kernel
theorem dX6_begin_44 : decode cX6_begin 44 = .ok (.invokevirtual 36, 3) := by decide +kernel
theorem kw_3_64 : (Jvm.Cond.methodLink "ParishUnion$Person" (36 : Nat) ({ cls := "ParishUnion$Person", name := "goTo", desc := "(I)V" } : Jvm.MethodName)) ∈ gT := gT_of (tb_3 _ (List.mem_of_getElem? (i := 64) rfl)) rfl
theorem kw_3_67 : (Jvm.Cond.code ({ cls := "ParishUnion$Person", name := "goTo", desc := "(I)V" } : Jvm.MethodName) prog_8_method_6_code (2 : Nat) (Option.none : Option Jvm.ClassFile.FieldType)) ∈ gT := gT_of (tb_3 _ (List.mem_of_getElem? (i := 67) rfl)) rfl
theorem kw_1_8 : (Jvm.Cond.initialized "ParishUnion$Person") ∈ gT := gT_of (tb_1 _ (List.mem_of_getElem? (i := 8) rfl)) rfl
theorem okX6_goTo : gQok yX6_goTo cX6_goTo 2 (Option.none : Option Jvm.ClassFile.FieldType) 1 := ⟨kw_3_67, kw_1_8, by decide +kernel, by decide +kernel, by decide +kernel⟩
theorem kw_3_65 : (Jvm.Cond.instanceMethod ({ cls := "ParishUnion$Person", name := "goTo", desc := "(I)V" } : Jvm.MethodName)) ∈ gT := gT_of (tb_3 _ (List.mem_of_getElem? (i := 65) rfl)) rfl
theorem kw_3_66 : (Jvm.Cond.selects "ParishUnion$Person" ({ cls := "ParishUnion$Person", name := "goTo", desc := "(I)V" } : Jvm.MethodName) ({ cls := "ParishUnion$Person", name := "goTo", desc := "(I)V" } : Jvm.MethodName)) ∈ gT := gT_of (tb_3 _ (List.mem_of_getElem? (i := 66) rfl)) rfl
theorem dX6_begin_47 : decode cX6_begin 47 = .ok (.return_, 1) := by decide +kernel
set_option maxRecDepth 100000 in
set_option maxHeartbeats 4000000 in
theorem c_X6_begin {l : Launch} {n0 : Nat} {D : va_G} {cA : Nat → ClassId} {M : gM} (a b c d f : Int) (r_a : -2147483648 ≤ a ∧ a ≤ 2147483647) (r_b : -2147483648 ≤ b ∧ b ≤ 2147483647) (r_c : -2147483648 ≤ c ∧ c ≤ 2147483647) (r_d : -2147483648 ≤ d ∧ d ≤ 2147483647) (r_f : -2147483648 ≤ f ∧ f ≤ 2147483647) {sz : Nat} (hsz : 206 ≤ sz) : Met l yX6_begin (gWsOf yX6_begin cX6_begin 6 (Option.none : Option Jvm.ClassFile.FieldType)) { frames := 1, cells := 0, slots := 0, locals := 21 } (gPc n0 D cA [gA n0 31, gJ a, gJ b, gJ c, gJ d, gJ f] M sz) (gQv n0 D cA sz (fun M1 => ∀ a : Int, a ≠ 31 → M1 a = M a)) 0 0 (fun q => n0 ≤ q) := by
  refine gMet_of [gA n0 31, gJ a, gJ b, gJ c, gJ d, gJ f] (by decide) (Nat.le_of_ble_eq_true rfl) ?_
  intro p e s m args below meth cd X hr hm
  have X : gCx p s m args meth cd n0 D cA "ParishUnion$Person" cX6_begin 6 := X
  show G p l e ({ frames := 1, cells := 0, slots := 0, locals := 21 } : Room) s m args below meth cd n0 D cA 6 (MQ below (gQv n0 D cA sz (fun M1 => ∀ a : Int, a ≠ 31 → M1 a = M a)) args s 0 0 (fun q => n0 ≤ q)) 0 0 M sz 0 [(0, gA n0 31), (1, gJ a), (2, gJ b), (3, gJ c), (4, gJ d), (5, gJ f)] []
  refine g_aload_n (n := 1) X 0 dX6_begin_0 rfl rfl rfl ?_
  refine g_iload_n (n := 2) X 1 dX6_begin_1 rfl rfl rfl ?_
  refine gp_6_0 (n := 5) X (by omega) (by omega) lay_31 kw_1_175 dX6_begin_2 rfl ?_
  refine G.nm (fun M1 e2 => ?_)
  refine g_aload_n (n := 6) X 0 dX6_begin_5 rfl rfl rfl ?_
  refine g_iload_n (n := 7) X 2 dX6_begin_6 rfl rfl rfl ?_
  refine gp_6_1 (n := 10) X (by omega) (by omega) lay_31 kw_1_178 dX6_begin_7 rfl ?_
  refine G.nm (fun M3 e4 => ?_)
  refine g_aload_n (n := 11) X 0 dX6_begin_10 rfl rfl rfl ?_
  refine g_iload_n (n := 12) X 3 dX6_begin_11 rfl rfl rfl ?_
  refine gp_6_2 (n := 15) X (by omega) (by omega) lay_31 kw_1_181 dX6_begin_12 rfl ?_
  refine G.nm (fun M5 e6 => ?_)
  refine g_aload_n (n := 16) X 0 dX6_begin_15 rfl rfl rfl ?_
  refine g_iload (n := 18) X 4 dX6_begin_16 rfl rfl ?_
  refine gp_6_3 (n := 21) X (by omega) (by omega) lay_31 kw_1_184 dX6_begin_18 rfl ?_
  refine G.nm (fun M7 e8 => ?_)
  refine g_aload_n (n := 22) X 0 dX6_begin_21 rfl rfl rfl ?_
  refine g_iload (n := 24) X 5 dX6_begin_22 rfl rfl ?_
  refine gp_6_4 (n := 27) X (by omega) (by omega) lay_31 kw_1_187 dX6_begin_24 rfl ?_
  refine G.nm (fun M9 e10 => ?_)
  refine g_aload_n (n := 28) X 0 dX6_begin_27 rfl rfl rfl ?_
  refine g_iconst (n := 29) X dX6_begin_28 rfl ?_
  refine gp_6_6 (n := 32) X (by omega) (by omega) lay_31 kw_1_196 dX6_begin_29 rfl ?_
  refine G.nm (fun M11 e12 => ?_)
  refine g_aload_n (n := 33) X 0 dX6_begin_32 rfl rfl rfl ?_
  refine g_iconst (n := 34) X dX6_begin_33 rfl ?_
  refine gp_6_7 (n := 37) X (by omega) (by omega) lay_31 kw_1_200 dX6_begin_34 rfl ?_
  refine G.nm (fun M13 e14 => ?_)
  refine g_aload_n (n := 38) X 0 dX6_begin_37 rfl rfl rfl ?_
  refine g_iconst (n := 39) X dX6_begin_38 rfl ?_
  refine gp_6_11 (n := 42) X (by omega) (by omega) lay_31 kw_1_212 dX6_begin_39 rfl ?_
  refine G.nm (fun M15 e16 => ?_)
  refine g_aload_n (n := 43) X 0 dX6_begin_42 rfl rfl rfl ?_
  refine g_iload_n (n := 44) X 3 dX6_begin_43 rfl rfl rfl ?_
  refine g_callVv (n := 47) (As := [gJ c]) (rest := []) (cs1 := 0) (ss1 := 0) X (c_X6_goTo c (by omega) (by omega)) okX6_goTo kw_3_64 ⟨kw_3_65, kw_3_66⟩ ⟨rfl, rfl⟩ ⟨Nat.le_of_ble_eq_true rfl, Nat.le_of_ble_eq_true rfl⟩ rfl (by omega) (by omega) lay_31 rfl rfl (Nat.le_of_ble_eq_true rfl) ⟨Nat.le_of_ble_eq_true rfl, Nat.le_of_ble_eq_true rfl⟩ rfl rfl dX6_begin_44 rfl (fun M18 P19 => ?_)
  have F20 := P19
  exact g_return X hr dX6_begin_47 (by exact (fun a h0 => ((F20 a (by omega)).trans ((congrFun e16 a).trans ((gset_off a (by omega)).trans ((congrFun e14 a).trans ((gset_off a (by omega)).trans ((congrFun e12 a).trans ((gset_off a (by omega)).trans ((congrFun e10 a).trans ((gset_off a (by omega)).trans ((congrFun e8 a).trans ((gset_off a (by omega)).trans ((congrFun e6 a).trans ((gset_off a (by omega)).trans ((congrFun e4 a).trans ((gset_off a (by omega)).trans ((congrFun e2 a).trans ((gset_off a (by omega)).trans rfl)))))))))))))))))))
theorem dX11_person_0 : decode cX11_person 0 = .ok (.iload 4, 2) := by decide +kernel
theorem dX11_person_2 : decode cX11_person 2 = .ok (.iconst (-1), 1) := by decide +kernel
theorem dX11_person_3 : decode cX11_person 3 = .ok (.if_icmp .eq 7, 3) := by decide +kernel
theorem dX11_person_10 : decode cX11_person 10 = .ok (.iconst 0, 1) := by decide +kernel
theorem dX11_person_11 : decode cX11_person 11 = .ok (.istore 6, 2) := by decide +kernel
theorem dX11_person_13 : decode cX11_person 13 = .ok (.iload_n 3, 1) := by decide +kernel
theorem dX11_person_14 : decode cX11_person 14 = .ok (.invokestatic 58, 3) := by decide +kernel
theorem dX11_person_17 : decode cX11_person 17 = .ok (.ifCond .eq 17, 3) := by decide +kernel
theorem dX11_person_34 : decode cX11_person 34 = .ok (.iconst (-1), 1) := by decide +kernel
theorem dX11_person_35 : decode cX11_person 35 = .ok (.ireturn, 1) := by decide +kernel
theorem dX11_person_20 : decode cX11_person 20 = .ok (.iload 6, 2) := by decide +kernel
theorem dX11_person_22 : decode cX11_person 22 = .ok (.ifCond .eq 14, 3) := by decide +kernel
theorem dX11_person_36 : decode cX11_person 36 = .ok (.iload_n 1, 1) := by decide +kernel
theorem dX11_person_37 : decode cX11_person 37 = .ok (.iconst 0, 1) := by decide +kernel
theorem dX11_person_38 : decode cX11_person 38 = .ok (.iconst 1, 1) := by decide +kernel
theorem dX11_person_39 : decode cX11_person 39 = .ok (.invokestatic 62, 3) := by decide +kernel
theorem dX11_person_42 : decode cX11_person 42 = .ok (.ifCond .eq 31, 3) := by decide +kernel
theorem dX11_person_73 : decode cX11_person 73 = .ok (.bipush (-2), 2) := by decide +kernel
theorem dX11_person_75 : decode cX11_person 75 = .ok (.ireturn, 1) := by decide +kernel
theorem dX11_person_45 : decode cX11_person 45 = .ok (.iload_n 2, 1) := by decide +kernel
theorem dX11_person_46 : decode cX11_person 46 = .ok (.sipush (-3000), 3) := by decide +kernel
theorem dX11_person_49 : decode cX11_person 49 = .ok (.aload_n 0, 1) := by decide +kernel
theorem dX11_person_50 : decode cX11_person 50 = .ok (.getfield 10, 3) := by decide +kernel
theorem dX11_person_53 : decode cX11_person 53 = .ok (.getfield 85, 3) := by decide +kernel
theorem dX11_person_56 : decode cX11_person 56 = .ok (.invokestatic 62, 3) := by decide +kernel
theorem dX11_person_59 : decode cX11_person 59 = .ok (.ifCond .eq 14, 3) := by decide +kernel
theorem dX11_person_62 : decode cX11_person 62 = .ok (.iload 5, 2) := by decide +kernel
theorem dX11_person_64 : decode cX11_person 64 = .ok (.iconst 0, 1) := by decide +kernel
theorem dX11_person_65 : decode cX11_person 65 = .ok (.bipush 9, 2) := by decide +kernel
theorem dX11_person_67 : decode cX11_person 67 = .ok (.invokestatic 62, 3) := by decide +kernel
theorem dX11_person_70 : decode cX11_person 70 = .ok (.ifCond .ne 6, 3) := by decide +kernel
theorem dX11_person_76 : decode cX11_person 76 = .ok (.iload 6, 2) := by decide +kernel
theorem dX11_person_78 : decode cX11_person 78 = .ok (.ifCond .eq 39, 3) := by decide +kernel
theorem dX11_person_117 : decode cX11_person 117 = .ok (.aload_n 0, 1) := by decide +kernel
theorem dX11_person_118 : decode cX11_person 118 = .ok (.getfield 10, 3) := by decide +kernel
theorem dX11_person_121 : decode cX11_person 121 = .ok (.getfield 98, 3) := by decide +kernel
theorem dX11_person_124 : decode cX11_person 124 = .ok (.bipush 16, 2) := by decide +kernel
theorem dX11_person_126 : decode cX11_person 126 = .ok (.if_icmp .lt 6, 3) := by decide +kernel
theorem dX11_person_132 : decode cX11_person 132 = .ok (.aload_n 0, 1) := by decide +kernel
theorem dX11_person_133 : decode cX11_person 133 = .ok (.getfield 10, 3) := by decide +kernel
theorem dX11_person_136 : decode cX11_person 136 = .ok (.getfield 89, 3) := by decide +kernel
theorem kw_2_108 : (Jvm.Cond.fieldLink "ParishUnion" (89 : Nat) "ParishUnion$Union" "persons" "[LParishUnion$Person;") ∈ gT := gT_of (tb_2 _ (List.mem_of_getElem? (i := 108) rfl)) rfl
theorem dX11_person_139 : decode cX11_person 139 = .ok (.aload_n 0, 1) := by decide +kernel
theorem dX11_person_140 : decode cX11_person 140 = .ok (.getfield 10, 3) := by decide +kernel
theorem dX11_person_143 : decode cX11_person 143 = .ok (.getfield 98, 3) := by decide +kernel
theorem dX11_person_146 : decode cX11_person 146 = .ok (.aaload, 1) := by decide +kernel
theorem dX11_person_147 : decode cX11_person 147 = .ok (.iload_n 1, 1) := by decide +kernel
theorem dX11_person_148 : decode cX11_person 148 = .ok (.iload_n 2, 1) := by decide +kernel
theorem dX11_person_149 : decode cX11_person 149 = .ok (.iload_n 3, 1) := by decide +kernel
theorem dX11_person_150 : decode cX11_person 150 = .ok (.iload 4, 2) := by decide +kernel
theorem dX11_person_152 : decode cX11_person 152 = .ok (.iload 5, 2) := by decide +kernel
theorem dX11_person_154 : decode cX11_person 154 = .ok (.invokevirtual 101, 3) := by decide +kernel
theorem kw_3_60 : (Jvm.Cond.methodLink "ParishUnion" (101 : Nat) ({ cls := "ParishUnion$Person", name := "begin", desc := "(IIIII)V" } : Jvm.MethodName)) ∈ gT := gT_of (tb_3 _ (List.mem_of_getElem? (i := 60) rfl)) rfl
theorem kw_3_63 : (Jvm.Cond.code ({ cls := "ParishUnion$Person", name := "begin", desc := "(IIIII)V" } : Jvm.MethodName) prog_8_method_2_code (6 : Nat) (Option.none : Option Jvm.ClassFile.FieldType)) ∈ gT := gT_of (tb_3 _ (List.mem_of_getElem? (i := 63) rfl)) rfl
theorem okX6_begin : gQok yX6_begin cX6_begin 6 (Option.none : Option Jvm.ClassFile.FieldType) 5 := ⟨kw_3_63, kw_1_8, by decide +kernel, by decide +kernel, by decide +kernel⟩
theorem kw_3_61 : (Jvm.Cond.instanceMethod ({ cls := "ParishUnion$Person", name := "begin", desc := "(IIIII)V" } : Jvm.MethodName)) ∈ gT := gT_of (tb_3 _ (List.mem_of_getElem? (i := 61) rfl)) rfl
theorem kw_3_62 : (Jvm.Cond.selects "ParishUnion$Person" ({ cls := "ParishUnion$Person", name := "begin", desc := "(IIIII)V" } : Jvm.MethodName) ({ cls := "ParishUnion$Person", name := "begin", desc := "(IIIII)V" } : Jvm.MethodName)) ∈ gT := gT_of (tb_3 _ (List.mem_of_getElem? (i := 62) rfl)) rfl
theorem dX11_person_157 : decode cX11_person 157 = .ok (.aload_n 0, 1) := by decide +kernel
theorem dX11_person_158 : decode cX11_person 158 = .ok (.getfield 10, 3) := by decide +kernel
theorem dX11_person_161 : decode cX11_person 161 = .ok (.dup, 1) := by decide +kernel
theorem dX11_person_162 : decode cX11_person 162 = .ok (.getfield 98, 3) := by decide +kernel
theorem dX11_person_165 : decode cX11_person 165 = .ok (.dup_x1, 1) := by decide +kernel
theorem dX11_person_166 : decode cX11_person 166 = .ok (.iconst 1, 1) := by decide +kernel
theorem dX11_person_167 : decode cX11_person 167 = .ok (.iadd, 1) := by decide +kernel
theorem dX11_person_168 : decode cX11_person 168 = .ok (.putfield 98, 3) := by decide +kernel
theorem dX11_person_171 : decode cX11_person 171 = .ok (.ireturn, 1) := by decide +kernel
theorem dX11_person_6 : decode cX11_person 6 = .ok (.iconst 1, 1) := by decide +kernel
theorem dX11_person_7 : decode cX11_person 7 = .ok (.goto 4, 3) := by decide +kernel
theorem dX11_person_25 : decode cX11_person 25 = .ok (.aload_n 0, 1) := by decide +kernel
theorem dX11_person_26 : decode cX11_person 26 = .ok (.iload 4, 2) := by decide +kernel
theorem dX11_person_28 : decode cX11_person 28 = .ok (.invokevirtual 82, 3) := by decide +kernel
theorem kw_3_56 : (Jvm.Cond.methodLink "ParishUnion" (82 : Nat) ({ cls := "ParishUnion", name := "isPerson", desc := "(I)Z" } : Jvm.MethodName)) ∈ gT := gT_of (tb_3 _ (List.mem_of_getElem? (i := 56) rfl)) rfl
theorem kw_3_59 : (Jvm.Cond.code ({ cls := "ParishUnion", name := "isPerson", desc := "(I)Z" } : Jvm.MethodName) prog_1_method_51_code (2 : Nat) (Option.some Jvm.ClassFile.FieldType.boolean)) ∈ gT := gT_of (tb_3 _ (List.mem_of_getElem? (i := 59) rfl)) rfl
theorem okX11_isPerson : gQok yX11_isPerson cX11_isPerson 2 (Option.some Jvm.ClassFile.FieldType.boolean) 1 := ⟨kw_3_59, kw_1_1, by decide +kernel, by decide +kernel, by decide +kernel⟩
theorem kw_3_58 : (Jvm.Cond.instanceMethod ({ cls := "ParishUnion", name := "isPerson", desc := "(I)Z" } : Jvm.MethodName)) ∈ gT := gT_of (tb_3 _ (List.mem_of_getElem? (i := 58) rfl)) rfl
theorem kw_0_0 : (Jvm.Cond.selects "ParishUnion" ({ cls := "ParishUnion", name := "isPerson", desc := "(I)Z" } : Jvm.MethodName) ({ cls := "ParishUnion", name := "isPerson", desc := "(I)Z" } : Jvm.MethodName)) ∈ gT := gT_of (tb_0 _ (List.mem_of_getElem? (i := 0) rfl)) rfl
theorem dX11_person_31 : decode cX11_person 31 = .ok (.ifCond .ne 5, 3) := by decide +kernel
set_option maxRecDepth 100000 in
set_option maxHeartbeats 4000000 in
theorem c_X11_person {l : Launch} {n0 : Nat} {D : va_G} {cA : Nat → ClassId} {M : gM} (a b c d f : Int) (r_a : -2147483648 ≤ a ∧ a ≤ 2147483647) (r_b : -2147483648 ≤ b ∧ b ≤ 2147483647) (r_c : -2147483648 ≤ c ∧ c ≤ 2147483647) (r_d : -2147483648 ≤ d ∧ d ≤ 2147483647) (r_f : -2147483648 ≤ f ∧ f ≤ 2147483647) {sz : Nat} (hsz : 206 ≤ sz) (f_0_0 : M 0 0 = 2) (f_1_10 : M 1 10 = 0) (f_1_15 : M 1 15 = 0) (f_1_1 : M 1 1 = 6) (f_5_0 : M 5 0 = 32) : Met l yX11_person (gWsOf yX11_person cX11_person 7 (Option.some Jvm.ClassFile.FieldType.int)) { frames := 2, cells := 0, slots := 0, locals := 46 } (gPc n0 D cA [gA n0 0, gJ a, gJ b, gJ c, gJ d, gJ f] M sz) (gQi n0 D cA sz (fun z M1 => (((¬(0 ≤ c ∧ c ≤ 5) ∨ ¬ d = -1) → z = -1) ∧ (¬(¬(0 ≤ c ∧ c ≤ 5) ∨ ¬ d = -1) → (¬(0 ≤ a ∧ a ≤ 1) ∨ ¬(-3000 ≤ b ∧ b ≤ 0) ∨ ¬(0 ≤ f ∧ f ≤ 9)) → z = -2) ∧ (¬(¬(0 ≤ c ∧ c ≤ 5) ∨ ¬ d = -1) → ¬(¬(0 ≤ a ∧ a ≤ 1) ∨ ¬(-3000 ≤ b ∧ b ≤ 0) ∨ ¬(0 ≤ f ∧ f ≤ 9)) → (z = 0))) ∧ ∀ a : Int, a ≠ 1 → a ≠ 31 → M1 a = M a)) 0 0 (fun q => n0 ≤ q) := by
  refine gMet_of [gA n0 0, gJ a, gJ b, gJ c, gJ d, gJ f] (by decide) (Nat.le_of_ble_eq_true rfl) ?_
  intro p e s m args below meth cd X hr hm
  have X : gCx p s m args meth cd n0 D cA "ParishUnion" cX11_person 7 := X
  show G p l e ({ frames := 2, cells := 0, slots := 0, locals := 46 } : Room) s m args below meth cd n0 D cA 7 (MQ below (gQi n0 D cA sz (fun z M1 => (((¬(0 ≤ c ∧ c ≤ 5) ∨ ¬ d = -1) → z = -1) ∧ (¬(¬(0 ≤ c ∧ c ≤ 5) ∨ ¬ d = -1) → (¬(0 ≤ a ∧ a ≤ 1) ∨ ¬(-3000 ≤ b ∧ b ≤ 0) ∨ ¬(0 ≤ f ∧ f ≤ 9)) → z = -2) ∧ (¬(¬(0 ≤ c ∧ c ≤ 5) ∨ ¬ d = -1) → ¬(¬(0 ≤ a ∧ a ≤ 1) ∨ ¬(-3000 ≤ b ∧ b ≤ 0) ∨ ¬(0 ≤ f ∧ f ≤ 9)) → (z = 0))) ∧ ∀ a : Int, a ≠ 1 → a ≠ 31 → M1 a = M a)) args s 0 0 (fun q => n0 ≤ q)) 0 0 M sz 0 [(0, gA n0 0), (1, gJ a), (2, gJ b), (3, gJ c), (4, gJ d), (5, gJ f)] []
  refine g_iload (n := 2) X 4 dX11_person_0 rfl rfl ?_
  refine g_iconst (n := 3) X dX11_person_2 rfl ?_
  refine g_icmp_eq (n := 6) (tgt := 10) X dX11_person_3 (by decide) (by omega) (by omega) rfl (fun c1 => ?_) (fun c1 => ?_)
  · refine g_iconst (n := 11) X dX11_person_10 rfl ?_
    refine g_istore (n := 13) (L' := [(6, gJ 0), (0, gA n0 0), (1, gJ a), (2, gJ b), (3, gJ c), (4, gJ d), (5, gJ f)]) X dX11_person_11 (by decide) rfl rfl ?_
    refine g_iload_n (n := 14) X 4 dX11_person_13 rfl rfl rfl ?_
    refine g_callSi (n := 17) (As := [gJ c]) (rest := []) (cs1 := 0) (ss1 := 0) X (c_X11_isParish c (by omega) (by omega)) okX11_isParish kw_3_26 kw_3_27 ⟨rfl, rfl⟩ ⟨Nat.le_of_ble_eq_true rfl, Nat.le_of_ble_eq_true rfl⟩ rfl rfl (Nat.le_of_ble_eq_true rfl) ⟨Nat.le_of_ble_eq_true rfl, Nat.le_of_ble_eq_true rfl⟩ rfl rfl dX11_person_14 rfl (fun z2 M3 P4 => ?_)
    obtain ⟨rfl, P4⟩ := P4
    refine g_if_eq (n := 20) (tgt := 34) X dX11_person_17 (by decide) (by omega) rfl (fun c5 => ?_) (fun c5 => ?_)
    · refine g_iconst (n := 35) X dX11_person_34 rfl ?_
      exact g_ireturn X hr dX11_person_35 (by exact ⟨by omega, fun a h0 h1 => rfl⟩)
    · refine g_iload (n := 22) X 0 dX11_person_20 rfl rfl ?_
      refine g_if_eq (n := 25) (tgt := 36) X dX11_person_22 (by decide) (by omega) rfl (fun c6 => ?_) (fun c6 => by exfalso; omega)
      refine g_iload_n (n := 37) X 2 dX11_person_36 rfl rfl rfl ?_
      refine g_iconst (n := 38) X dX11_person_37 rfl ?_
      refine g_iconst (n := 39) X dX11_person_38 rfl ?_
      refine g_callSi (n := 42) (As := [gJ a, gJ 0, gJ 1]) (rest := []) (cs1 := 0) (ss1 := 0) X (c_X11_within a 0 1 (by omega) (by omega) (by omega) (by omega)) okX11_within kw_3_29 kw_3_30 ⟨rfl, rfl⟩ ⟨Nat.le_of_ble_eq_true rfl, Nat.le_of_ble_eq_true rfl⟩ rfl rfl (Nat.le_of_ble_eq_true rfl) ⟨Nat.le_of_ble_eq_true rfl, Nat.le_of_ble_eq_true rfl⟩ rfl rfl dX11_person_39 rfl (fun z7 M8 P9 => ?_)
      obtain ⟨rfl, P9⟩ := P9
      refine g_if_eq (n := 45) (tgt := 73) X dX11_person_42 (by decide) (by omega) rfl (fun c10 => ?_) (fun c10 => ?_)
      · refine g_bipush (n := 75) X dX11_person_73 (by decide +kernel) rfl ?_
        exact g_ireturn X hr dX11_person_75 (by exact ⟨by omega, fun a h0 h1 => rfl⟩)
      · refine g_iload_n (n := 46) X 3 dX11_person_45 rfl rfl rfl ?_
        refine g_sipush (n := 49) X dX11_person_46 (by decide +kernel) rfl ?_
        refine g_aload_n (n := 50) X 1 dX11_person_49 rfl rfl rfl ?_
        refine gg_11_0 (n := 53) (z := 1) X (by omega) (by omega) lay_0 kw_2_231 dX11_person_50 rfl f_0_0 (by omega) ?_
        refine gg_9_15 (n := 56) (z := 0) X (by omega) (by omega) lay_1 kw_2_139 dX11_person_53 rfl f_1_15 ?_
        refine g_callSi (n := 59) (As := [gJ b, gJ (-3000), gJ 0]) (rest := []) (cs1 := 0) (ss1 := 0) X (c_X11_within b (-3000) 0 (by omega) (by omega) (by omega) (by omega)) okX11_within kw_3_29 kw_3_30 ⟨rfl, rfl⟩ ⟨Nat.le_of_ble_eq_true rfl, Nat.le_of_ble_eq_true rfl⟩ rfl rfl (Nat.le_of_ble_eq_true rfl) ⟨Nat.le_of_ble_eq_true rfl, Nat.le_of_ble_eq_true rfl⟩ rfl rfl dX11_person_56 rfl (fun z11 M12 P13 => ?_)
        obtain ⟨rfl, P13⟩ := P13
        refine g_if_eq (n := 62) (tgt := 73) X dX11_person_59 (by decide) (by omega) rfl (fun c14 => ?_) (fun c14 => ?_)
        · refine g_bipush (n := 75) X dX11_person_73 (by decide +kernel) rfl ?_
          exact g_ireturn X hr dX11_person_75 (by exact ⟨by omega, fun a h0 h1 => rfl⟩)
        · refine g_iload (n := 64) X 6 dX11_person_62 rfl rfl ?_
          refine g_iconst (n := 65) X dX11_person_64 rfl ?_
          refine g_bipush (n := 67) X dX11_person_65 (by decide +kernel) rfl ?_
          refine g_callSi (n := 70) (As := [gJ f, gJ 0, gJ 9]) (rest := []) (cs1 := 0) (ss1 := 0) X (c_X11_within f 0 9 (by omega) (by omega) (by omega) (by omega)) okX11_within kw_3_29 kw_3_30 ⟨rfl, rfl⟩ ⟨Nat.le_of_ble_eq_true rfl, Nat.le_of_ble_eq_true rfl⟩ rfl rfl (Nat.le_of_ble_eq_true rfl) ⟨Nat.le_of_ble_eq_true rfl, Nat.le_of_ble_eq_true rfl⟩ rfl rfl dX11_person_67 rfl (fun z15 M16 P17 => ?_)
          obtain ⟨rfl, P17⟩ := P17
          refine g_if_ne (n := 73) (tgt := 76) X dX11_person_70 (by decide) (by omega) rfl (fun c18 => ?_) (fun c18 => ?_)
          · refine g_iload (n := 78) X 0 dX11_person_76 rfl rfl ?_
            refine g_if_eq (n := 81) (tgt := 117) X dX11_person_78 (by decide) (by omega) rfl (fun c19 => ?_) (fun c19 => by exfalso; omega)
            refine g_aload_n (n := 118) X 1 dX11_person_117 rfl rfl rfl ?_
            refine gg_11_0 (n := 121) (z := 1) X (by omega) (by omega) lay_0 kw_2_231 dX11_person_118 rfl f_0_0 (by omega) ?_
            refine gg_9_10 (n := 124) (z := 0) X (by omega) (by omega) lay_1 kw_2_127 dX11_person_121 rfl f_1_10 ?_
            refine g_bipush (n := 126) X dX11_person_124 (by decide +kernel) rfl ?_
            refine g_icmp_lt (n := 129) (tgt := 132) X dX11_person_126 (by decide) (by omega) (by omega) rfl (fun c20 => ?_) (fun c20 => by exfalso; omega)
            refine g_aload_n (n := 133) X 1 dX11_person_132 rfl rfl rfl ?_
            refine gg_11_0 (n := 136) (z := 1) X (by omega) (by omega) lay_0 kw_2_231 dX11_person_133 rfl f_0_0 (by omega) ?_
            refine gg_9_1 (n := 139) (z := 5) X (by omega) (by omega) lay_1 kw_2_108 dX11_person_136 rfl f_1_1 (by omega) ?_
            refine g_aload_n (n := 140) X 1 dX11_person_139 rfl rfl rfl ?_
            refine gg_11_0 (n := 143) (z := 1) X (by omega) (by omega) lay_0 kw_2_231 dX11_person_140 rfl f_0_0 (by omega) ?_
            refine gg_9_10 (n := 146) (z := 0) X (by omega) (by omega) lay_1 kw_2_127 dX11_person_143 rfl f_1_10 ?_
            refine g_aald6 (n := 147) (t := 31) X (by omega) (by omega) lay_5 (by omega) (by omega) (by omega) f_5_0 (by omega) dX11_person_146 rfl ?_
            refine g_iload_n (n := 148) X 2 dX11_person_147 rfl rfl rfl ?_
            refine g_iload_n (n := 149) X 3 dX11_person_148 rfl rfl rfl ?_
            refine g_iload_n (n := 150) X 4 dX11_person_149 rfl rfl rfl ?_
            refine g_iload (n := 152) X 5 dX11_person_150 rfl rfl ?_
            refine g_iload (n := 154) X 6 dX11_person_152 rfl rfl ?_
            refine g_callVv (n := 157) (As := [gJ a, gJ b, gJ c, gJ d, gJ f]) (rest := []) (cs1 := 0) (ss1 := 0) X (c_X6_begin a b c d f (by omega) (by omega) (by omega) (by omega) (by omega) (by omega)) okX6_begin kw_3_60 ⟨kw_3_61, kw_3_62⟩ ⟨rfl, rfl⟩ ⟨Nat.le_of_ble_eq_true rfl, Nat.le_of_ble_eq_true rfl⟩ rfl (by omega) (by omega) lay_31 rfl rfl (Nat.le_of_ble_eq_true rfl) ⟨Nat.le_of_ble_eq_true rfl, Nat.le_of_ble_eq_true rfl⟩ rfl rfl dX11_person_154 rfl (fun M22 P23 => ?_)
            have F24 := P23
            refine g_aload_n (n := 158) X 1 dX11_person_157 rfl rfl rfl ?_
            refine gg_11_0 (n := 161) (z := 1) X (by omega) (by omega) lay_0 kw_2_231 dX11_person_158 rfl ((congrFun (F24 0 (by omega)) _).trans f_0_0) (by omega) ?_
            refine g_dup (n := 162) X dX11_person_161 rfl rfl ?_
            refine gg_9_10 (n := 165) (z := 0) X (by omega) (by omega) lay_1 kw_2_127 dX11_person_162 rfl ((congrFun (F24 1 (by omega)) _).trans f_1_10) ?_
            refine g_dup_x1 (n := 166) X dX11_person_165 rfl rfl rfl ?_
            refine g_iconst (n := 167) X dX11_person_166 rfl ?_
            refine g_iadd (n := 168) (z := 1) X dX11_person_167 rfl rfl ?_
            refine gp_9_10 (n := 171) X (by omega) (by omega) lay_1 kw_2_127 dX11_person_168 rfl ?_
            refine G.nm (fun M25 e26 => ?_)
            exact g_ireturn X hr dX11_person_171 (by exact ⟨by omega, fun a h0 h1 => ((congrFun e26 a).trans ((gset_off a (by omega)).trans ((F24 a (by omega)).trans rfl)))⟩)
          · refine g_bipush (n := 75) X dX11_person_73 (by decide +kernel) rfl ?_
            exact g_ireturn X hr dX11_person_75 (by exact ⟨by omega, fun a h0 h1 => rfl⟩)
  · refine g_iconst (n := 7) X dX11_person_6 rfl ?_
    refine g_goto (tgt := 11) X dX11_person_7 (by decide) ?_
    refine g_istore (n := 13) (L' := [(6, gJ 1), (0, gA n0 0), (1, gJ a), (2, gJ b), (3, gJ c), (4, gJ d), (5, gJ f)]) X dX11_person_11 (by decide) rfl rfl ?_
    refine g_iload_n (n := 14) X 4 dX11_person_13 rfl rfl rfl ?_
    refine g_callSi (n := 17) (As := [gJ c]) (rest := []) (cs1 := 0) (ss1 := 0) X (c_X11_isParish c (by omega) (by omega)) okX11_isParish kw_3_26 kw_3_27 ⟨rfl, rfl⟩ ⟨Nat.le_of_ble_eq_true rfl, Nat.le_of_ble_eq_true rfl⟩ rfl rfl (Nat.le_of_ble_eq_true rfl) ⟨Nat.le_of_ble_eq_true rfl, Nat.le_of_ble_eq_true rfl⟩ rfl rfl dX11_person_14 rfl (fun z27 M28 P29 => ?_)
    obtain ⟨rfl, P29⟩ := P29
    refine g_if_eq (n := 20) (tgt := 34) X dX11_person_17 (by decide) (by omega) rfl (fun c30 => ?_) (fun c30 => ?_)
    · refine g_iconst (n := 35) X dX11_person_34 rfl ?_
      exact g_ireturn X hr dX11_person_35 (by exact ⟨by omega, fun a h0 h1 => rfl⟩)
    · refine g_iload (n := 22) X 0 dX11_person_20 rfl rfl ?_
      refine g_if_eq (n := 25) (tgt := 36) X dX11_person_22 (by decide) (by omega) rfl (fun c31 => by exfalso; omega) (fun c31 => ?_)
      refine g_aload_n (n := 26) X 1 dX11_person_25 rfl rfl rfl ?_
      refine g_iload (n := 28) X 5 dX11_person_26 rfl rfl ?_
      refine g_callVi (n := 31) (As := [gJ d]) (rest := []) (cs1 := 0) (ss1 := 0) X (c_X11_isPerson d (by omega) (by omega) f_0_0 f_1_10) okX11_isPerson kw_3_56 ⟨kw_3_58, kw_0_0⟩ ⟨rfl, rfl⟩ ⟨Nat.le_of_ble_eq_true rfl, Nat.le_of_ble_eq_true rfl⟩ rfl (by omega) (by omega) lay_0 rfl rfl (Nat.le_of_ble_eq_true rfl) ⟨Nat.le_of_ble_eq_true rfl, Nat.le_of_ble_eq_true rfl⟩ rfl rfl dX11_person_28 rfl (fun z32 M33 P34 => ?_)
      obtain ⟨rfl, rfl⟩ := P34
      refine g_if_ne (n := 34) (tgt := 36) X dX11_person_31 (by decide) (by omega) rfl (fun c35 => by exfalso; omega) (fun c35 => ?_)
      refine g_iconst (n := 35) X dX11_person_34 rfl ?_
      exact g_ireturn X hr dX11_person_35 (by exact ⟨by omega, fun a h0 h1 => rfl⟩)
theorem dX11_about_0 : decode cX11_about 0 = .ok (.aload_n 0, 1) := by decide +kernel
theorem dX11_about_1 : decode cX11_about 1 = .ok (.iload_n 1, 1) := by decide +kernel
theorem dX11_about_2 : decode cX11_about 2 = .ok (.invokevirtual 82, 3) := by decide +kernel
theorem dX11_about_5 : decode cX11_about 5 = .ok (.ifCond .ne 5, 3) := by decide +kernel
theorem dX11_about_8 : decode cX11_about 8 = .ok (.iconst (-1), 1) := by decide +kernel
theorem dX11_about_9 : decode cX11_about 9 = .ok (.ireturn, 1) := by decide +kernel
set_option maxRecDepth 100000 in
set_option maxHeartbeats 4000000 in
theorem c_X11_about {l : Launch} {n0 : Nat} {D : va_G} {cA : Nat → ClassId} {M : gM} (a b : Int) (r_a : -2147483648 ≤ a ∧ a ≤ 2147483647) (r_b : -2147483648 ≤ b ∧ b ≤ 2147483647) {sz : Nat} (hsz : 206 ≤ sz) (f_0_0 : M 0 0 = 2) (f_1_10 : M 1 10 = 0) : Met l yX11_about (gWsOf yX11_about cX11_about 4 (Option.some Jvm.ClassFile.FieldType.int)) { frames := 2, cells := 0, slots := 0, locals := 43 } (gPc n0 D cA [gA n0 0, gJ a, gJ b] M sz) (gQi n0 D cA sz (fun z M1 => (z = -1) ∧ ∀ a : Int, M1 a = M a)) 0 0 (fun q => n0 ≤ q) := by
  refine gMet_of [gA n0 0, gJ a, gJ b] (by decide) (Nat.le_of_ble_eq_true rfl) ?_
  intro p e s m args below meth cd X hr hm
  have X : gCx p s m args meth cd n0 D cA "ParishUnion" cX11_about 4 := X
  show G p l e ({ frames := 2, cells := 0, slots := 0, locals := 43 } : Room) s m args below meth cd n0 D cA 4 (MQ below (gQi n0 D cA sz (fun z M1 => (z = -1) ∧ ∀ a : Int, M1 a = M a)) args s 0 0 (fun q => n0 ≤ q)) 0 0 M sz 0 [(0, gA n0 0), (1, gJ a), (2, gJ b)] []
  refine g_aload_n (n := 1) X 0 dX11_about_0 rfl rfl rfl ?_
  refine g_iload_n (n := 2) X 1 dX11_about_1 rfl rfl rfl ?_
  refine g_callVi (n := 5) (As := [gJ a]) (rest := []) (cs1 := 0) (ss1 := 0) X (c_X11_isPerson a (by omega) (by omega) f_0_0 f_1_10) okX11_isPerson kw_3_56 ⟨kw_3_58, kw_0_0⟩ ⟨rfl, rfl⟩ ⟨Nat.le_of_ble_eq_true rfl, Nat.le_of_ble_eq_true rfl⟩ rfl (by omega) (by omega) lay_0 rfl rfl (Nat.le_of_ble_eq_true rfl) ⟨Nat.le_of_ble_eq_true rfl, Nat.le_of_ble_eq_true rfl⟩ rfl rfl dX11_about_2 rfl (fun z1 M2 P3 => ?_)
  obtain ⟨rfl, rfl⟩ := P3
  refine g_if_ne (n := 8) (tgt := 10) X dX11_about_5 (by decide) (by omega) rfl (fun c4 => by exfalso; omega) (fun c4 => ?_)
  refine g_iconst (n := 9) X dX11_about_8 rfl ?_
  exact g_ireturn X hr dX11_about_9 (by exact ⟨by omega, fun a  => rfl⟩)
theorem dX11_hire_0 : decode cX11_hire 0 = .ok (.aload_n 0, 1) := by decide +kernel
theorem dX11_hire_1 : decode cX11_hire 1 = .ok (.iload_n 1, 1) := by decide +kernel
theorem dX11_hire_2 : decode cX11_hire 2 = .ok (.invokevirtual 82, 3) := by decide +kernel
theorem dX11_hire_5 : decode cX11_hire 5 = .ok (.ifCond .eq 10, 3) := by decide +kernel
theorem dX11_hire_15 : decode cX11_hire 15 = .ok (.iconst (-1), 1) := by decide +kernel
theorem dX11_hire_16 : decode cX11_hire 16 = .ok (.ireturn, 1) := by decide +kernel
set_option maxRecDepth 100000 in
set_option maxHeartbeats 4000000 in
theorem c_X11_hire {l : Launch} {n0 : Nat} {D : va_G} {cA : Nat → ClassId} {M : gM} (a b c d f g : Int) (r_a : -2147483648 ≤ a ∧ a ≤ 2147483647) (r_b : -2147483648 ≤ b ∧ b ≤ 2147483647) (r_c : -2147483648 ≤ c ∧ c ≤ 2147483647) (r_d : -2147483648 ≤ d ∧ d ≤ 2147483647) (r_f : f = 0 ∨ f = 1) (r_g : g = 0 ∨ g = 1) {sz : Nat} (hsz : 206 ≤ sz) (f_0_0 : M 0 0 = 2) (f_1_10 : M 1 10 = 0) : Met l yX11_hire (gWsOf yX11_hire cX11_hire 7 (Option.some Jvm.ClassFile.FieldType.int)) { frames := 2, cells := 0, slots := 0, locals := 52 } (gPc n0 D cA [gA n0 0, gJ a, gJ b, gJ c, gJ d, gJ f, gJ g] M sz) (gQi n0 D cA sz (fun z M1 => (z = -1) ∧ ∀ a : Int, M1 a = M a)) 0 0 (fun q => n0 ≤ q) := by
  refine gMet_of [gA n0 0, gJ a, gJ b, gJ c, gJ d, gJ f, gJ g] (by decide) (Nat.le_of_ble_eq_true rfl) ?_
  intro p e s m args below meth cd X hr hm
  have X : gCx p s m args meth cd n0 D cA "ParishUnion" cX11_hire 7 := X
  show G p l e ({ frames := 2, cells := 0, slots := 0, locals := 52 } : Room) s m args below meth cd n0 D cA 7 (MQ below (gQi n0 D cA sz (fun z M1 => (z = -1) ∧ ∀ a : Int, M1 a = M a)) args s 0 0 (fun q => n0 ≤ q)) 0 0 M sz 0 [(0, gA n0 0), (1, gJ a), (2, gJ b), (3, gJ c), (4, gJ d), (5, gJ f), (6, gJ g)] []
  refine g_aload_n (n := 1) X 0 dX11_hire_0 rfl rfl rfl ?_
  refine g_iload_n (n := 2) X 1 dX11_hire_1 rfl rfl rfl ?_
  refine g_callVi (n := 5) (As := [gJ a]) (rest := []) (cs1 := 0) (ss1 := 0) X (c_X11_isPerson a (by omega) (by omega) f_0_0 f_1_10) okX11_isPerson kw_3_56 ⟨kw_3_58, kw_0_0⟩ ⟨rfl, rfl⟩ ⟨Nat.le_of_ble_eq_true rfl, Nat.le_of_ble_eq_true rfl⟩ rfl (by omega) (by omega) lay_0 rfl rfl (Nat.le_of_ble_eq_true rfl) ⟨Nat.le_of_ble_eq_true rfl, Nat.le_of_ble_eq_true rfl⟩ rfl rfl dX11_hire_2 rfl (fun z1 M2 P3 => ?_)
  obtain ⟨rfl, rfl⟩ := P3
  refine g_if_eq (n := 8) (tgt := 15) X dX11_hire_5 (by decide) (by omega) rfl (fun c4 => ?_) (fun c4 => by exfalso; omega)
  refine g_iconst (n := 16) X dX11_hire_15 rfl ?_
  exact g_ireturn X hr dX11_hire_16 (by exact ⟨by omega, fun a  => rfl⟩)
theorem dX11_rated_0 : decode cX11_rated 0 = .ok (.aload_n 0, 1) := by decide +kernel
theorem dX11_rated_1 : decode cX11_rated 1 = .ok (.iload_n 1, 1) := by decide +kernel
theorem dX11_rated_2 : decode cX11_rated 2 = .ok (.invokevirtual 82, 3) := by decide +kernel
theorem dX11_rated_5 : decode cX11_rated 5 = .ok (.ifCond .eq 10, 3) := by decide +kernel
theorem dX11_rated_15 : decode cX11_rated 15 = .ok (.iconst (-1), 1) := by decide +kernel
theorem dX11_rated_16 : decode cX11_rated 16 = .ok (.ireturn, 1) := by decide +kernel
set_option maxRecDepth 100000 in
set_option maxHeartbeats 4000000 in
theorem c_X11_rated {l : Launch} {n0 : Nat} {D : va_G} {cA : Nat → ClassId} {M : gM} (a b c d f : Int) (r_a : -2147483648 ≤ a ∧ a ≤ 2147483647) (r_b : -2147483648 ≤ b ∧ b ≤ 2147483647) (r_c : -2147483648 ≤ c ∧ c ≤ 2147483647) (r_d : -2147483648 ≤ d ∧ d ≤ 2147483647) (r_f : f = 0 ∨ f = 1) {sz : Nat} (hsz : 206 ≤ sz) (f_0_0 : M 0 0 = 2) (f_1_10 : M 1 10 = 0) : Met l yX11_rated (gWsOf yX11_rated cX11_rated 6 (Option.some Jvm.ClassFile.FieldType.int)) { frames := 2, cells := 0, slots := 0, locals := 52 } (gPc n0 D cA [gA n0 0, gJ a, gJ b, gJ c, gJ d, gJ f] M sz) (gQi n0 D cA sz (fun z M1 => (z = -1) ∧ ∀ a : Int, M1 a = M a)) 0 0 (fun q => n0 ≤ q) := by
  refine gMet_of [gA n0 0, gJ a, gJ b, gJ c, gJ d, gJ f] (by decide) (Nat.le_of_ble_eq_true rfl) ?_
  intro p e s m args below meth cd X hr hm
  have X : gCx p s m args meth cd n0 D cA "ParishUnion" cX11_rated 6 := X
  show G p l e ({ frames := 2, cells := 0, slots := 0, locals := 52 } : Room) s m args below meth cd n0 D cA 6 (MQ below (gQi n0 D cA sz (fun z M1 => (z = -1) ∧ ∀ a : Int, M1 a = M a)) args s 0 0 (fun q => n0 ≤ q)) 0 0 M sz 0 [(0, gA n0 0), (1, gJ a), (2, gJ b), (3, gJ c), (4, gJ d), (5, gJ f)] []
  refine g_aload_n (n := 1) X 0 dX11_rated_0 rfl rfl rfl ?_
  refine g_iload_n (n := 2) X 1 dX11_rated_1 rfl rfl rfl ?_
  refine g_callVi (n := 5) (As := [gJ a]) (rest := []) (cs1 := 0) (ss1 := 0) X (c_X11_isPerson a (by omega) (by omega) f_0_0 f_1_10) okX11_isPerson kw_3_56 ⟨kw_3_58, kw_0_0⟩ ⟨rfl, rfl⟩ ⟨Nat.le_of_ble_eq_true rfl, Nat.le_of_ble_eq_true rfl⟩ rfl (by omega) (by omega) lay_0 rfl rfl (Nat.le_of_ble_eq_true rfl) ⟨Nat.le_of_ble_eq_true rfl, Nat.le_of_ble_eq_true rfl⟩ rfl rfl dX11_rated_2 rfl (fun z1 M2 P3 => ?_)
  obtain ⟨rfl, rfl⟩ := P3
  refine g_if_eq (n := 8) (tgt := 15) X dX11_rated_5 (by decide) (by omega) rfl (fun c4 => ?_) (fun c4 => by exfalso; omega)
  refine g_iconst (n := 16) X dX11_rated_15 rfl ?_
  exact g_ireturn X hr dX11_rated_16 (by exact ⟨by omega, fun a  => rfl⟩)
theorem dX11_wed_0 : decode cX11_wed 0 = .ok (.aload_n 0, 1) := by decide +kernel
theorem dX11_wed_1 : decode cX11_wed 1 = .ok (.iload_n 1, 1) := by decide +kernel
theorem dX11_wed_2 : decode cX11_wed 2 = .ok (.invokevirtual 82, 3) := by decide +kernel
theorem dX11_wed_5 : decode cX11_wed 5 = .ok (.ifCond .eq 11, 3) := by decide +kernel
theorem dX11_wed_16 : decode cX11_wed 16 = .ok (.iconst (-1), 1) := by decide +kernel
theorem dX11_wed_17 : decode cX11_wed 17 = .ok (.ireturn, 1) := by decide +kernel
set_option maxRecDepth 100000 in
set_option maxHeartbeats 4000000 in
theorem c_X11_wed {l : Launch} {n0 : Nat} {D : va_G} {cA : Nat → ClassId} {M : gM} (a b c f : Int) (r_a : -2147483648 ≤ a ∧ a ≤ 2147483647) (r_b : -2147483648 ≤ b ∧ b ≤ 2147483647) (r_c : -2147483648 ≤ c ∧ c ≤ 2147483647) (r_f : f = 0 ∨ f = 1) {sz : Nat} (hsz : 206 ≤ sz) (f_0_0 : M 0 0 = 2) (f_1_10 : M 1 10 = 0) : Met l yX11_wed (gWsOf yX11_wed cX11_wed 5 (Option.some Jvm.ClassFile.FieldType.int)) { frames := 2, cells := 0, slots := 0, locals := 52 } (gPc n0 D cA [gA n0 0, gJ a, gJ b, gJ c, gJ f] M sz) (gQi n0 D cA sz (fun z M1 => (z = -1) ∧ ∀ a : Int, M1 a = M a)) 0 0 (fun q => n0 ≤ q) := by
  refine gMet_of [gA n0 0, gJ a, gJ b, gJ c, gJ f] (by decide) (Nat.le_of_ble_eq_true rfl) ?_
  intro p e s m args below meth cd X hr hm
  have X : gCx p s m args meth cd n0 D cA "ParishUnion" cX11_wed 5 := X
  show G p l e ({ frames := 2, cells := 0, slots := 0, locals := 52 } : Room) s m args below meth cd n0 D cA 5 (MQ below (gQi n0 D cA sz (fun z M1 => (z = -1) ∧ ∀ a : Int, M1 a = M a)) args s 0 0 (fun q => n0 ≤ q)) 0 0 M sz 0 [(0, gA n0 0), (1, gJ a), (2, gJ b), (3, gJ c), (4, gJ f)] []
  refine g_aload_n (n := 1) X 0 dX11_wed_0 rfl rfl rfl ?_
  refine g_iload_n (n := 2) X 1 dX11_wed_1 rfl rfl rfl ?_
  refine g_callVi (n := 5) (As := [gJ a]) (rest := []) (cs1 := 0) (ss1 := 0) X (c_X11_isPerson a (by omega) (by omega) f_0_0 f_1_10) okX11_isPerson kw_3_56 ⟨kw_3_58, kw_0_0⟩ ⟨rfl, rfl⟩ ⟨Nat.le_of_ble_eq_true rfl, Nat.le_of_ble_eq_true rfl⟩ rfl (by omega) (by omega) lay_0 rfl rfl (Nat.le_of_ble_eq_true rfl) ⟨Nat.le_of_ble_eq_true rfl, Nat.le_of_ble_eq_true rfl⟩ rfl rfl dX11_wed_2 rfl (fun z1 M2 P3 => ?_)
  obtain ⟨rfl, rfl⟩ := P3
  refine g_if_eq (n := 8) (tgt := 16) X dX11_wed_5 (by decide) (by omega) rfl (fun c4 => ?_) (fun c4 => by exfalso; omega)
  refine g_iconst (n := 17) X dX11_wed_16 rfl ?_
  exact g_ireturn X hr dX11_wed_17 (by exact ⟨by omega, fun a  => rfl⟩)
theorem dX11_proof_0 : decode cX11_proof 0 = .ok (.aload_n 0, 1) := by decide +kernel
theorem dX11_proof_1 : decode cX11_proof 1 = .ok (.iload_n 1, 1) := by decide +kernel
theorem dX11_proof_2 : decode cX11_proof 2 = .ok (.invokevirtual 136, 3) := by decide +kernel
theorem kw_3_96 : (Jvm.Cond.methodLink "ParishUnion" (136 : Nat) ({ cls := "ParishUnion", name := "isRight", desc := "(I)Z" } : Jvm.MethodName)) ∈ gT := gT_of (tb_3 _ (List.mem_of_getElem? (i := 96) rfl)) rfl
theorem kw_3_99 : (Jvm.Cond.code ({ cls := "ParishUnion", name := "isRight", desc := "(I)Z" } : Jvm.MethodName) prog_1_method_52_code (2 : Nat) (Option.some Jvm.ClassFile.FieldType.boolean)) ∈ gT := gT_of (tb_3 _ (List.mem_of_getElem? (i := 99) rfl)) rfl
theorem okX11_isRight : gQok yX11_isRight cX11_isRight 2 (Option.some Jvm.ClassFile.FieldType.boolean) 1 := ⟨kw_3_99, kw_1_1, by decide +kernel, by decide +kernel, by decide +kernel⟩
theorem kw_3_98 : (Jvm.Cond.instanceMethod ({ cls := "ParishUnion", name := "isRight", desc := "(I)Z" } : Jvm.MethodName)) ∈ gT := gT_of (tb_3 _ (List.mem_of_getElem? (i := 98) rfl)) rfl
theorem kw_0_1 : (Jvm.Cond.selects "ParishUnion" ({ cls := "ParishUnion", name := "isRight", desc := "(I)Z" } : Jvm.MethodName) ({ cls := "ParishUnion", name := "isRight", desc := "(I)Z" } : Jvm.MethodName)) ∈ gT := gT_of (tb_0 _ (List.mem_of_getElem? (i := 1) rfl)) rfl
theorem dX11_proof_5 : decode cX11_proof 5 = .ok (.ifCond .ne 5, 3) := by decide +kernel
theorem dX11_proof_8 : decode cX11_proof 8 = .ok (.iconst (-1), 1) := by decide +kernel
theorem dX11_proof_9 : decode cX11_proof 9 = .ok (.ireturn, 1) := by decide +kernel
set_option maxRecDepth 100000 in
set_option maxHeartbeats 4000000 in
theorem c_X11_proof {l : Launch} {n0 : Nat} {D : va_G} {cA : Nat → ClassId} {M : gM} (a b : Int) (r_a : -2147483648 ≤ a ∧ a ≤ 2147483647) (r_b : b = 0 ∨ b = 1) {sz : Nat} (hsz : 206 ≤ sz) (f_0_0 : M 0 0 = 2) (f_1_11 : M 1 11 = 0) : Met l yX11_proof (gWsOf yX11_proof cX11_proof 4 (Option.some Jvm.ClassFile.FieldType.int)) { frames := 2, cells := 0, slots := 0, locals := 43 } (gPc n0 D cA [gA n0 0, gJ a, gJ b] M sz) (gQi n0 D cA sz (fun z M1 => (z = -1) ∧ ∀ a : Int, M1 a = M a)) 0 0 (fun q => n0 ≤ q) := by
  refine gMet_of [gA n0 0, gJ a, gJ b] (by decide) (Nat.le_of_ble_eq_true rfl) ?_
  intro p e s m args below meth cd X hr hm
  have X : gCx p s m args meth cd n0 D cA "ParishUnion" cX11_proof 4 := X
  show G p l e ({ frames := 2, cells := 0, slots := 0, locals := 43 } : Room) s m args below meth cd n0 D cA 4 (MQ below (gQi n0 D cA sz (fun z M1 => (z = -1) ∧ ∀ a : Int, M1 a = M a)) args s 0 0 (fun q => n0 ≤ q)) 0 0 M sz 0 [(0, gA n0 0), (1, gJ a), (2, gJ b)] []
  refine g_aload_n (n := 1) X 0 dX11_proof_0 rfl rfl rfl ?_
  refine g_iload_n (n := 2) X 1 dX11_proof_1 rfl rfl rfl ?_
  refine g_callVi (n := 5) (As := [gJ a]) (rest := []) (cs1 := 0) (ss1 := 0) X (c_X11_isRight a (by omega) (by omega) f_0_0 f_1_11) okX11_isRight kw_3_96 ⟨kw_3_98, kw_0_1⟩ ⟨rfl, rfl⟩ ⟨Nat.le_of_ble_eq_true rfl, Nat.le_of_ble_eq_true rfl⟩ rfl (by omega) (by omega) lay_0 rfl rfl (Nat.le_of_ble_eq_true rfl) ⟨Nat.le_of_ble_eq_true rfl, Nat.le_of_ble_eq_true rfl⟩ rfl rfl dX11_proof_2 rfl (fun z1 M2 P3 => ?_)
  obtain ⟨rfl, rfl⟩ := P3
  refine g_if_ne (n := 8) (tgt := 10) X dX11_proof_5 (by decide) (by omega) rfl (fun c4 => by exfalso; omega) (fun c4 => ?_)
  refine g_iconst (n := 9) X dX11_proof_8 rfl ?_
  exact g_ireturn X hr dX11_proof_9 (by exact ⟨by omega, fun a  => rfl⟩)
theorem dX11_right_0 : decode cX11_right 0 = .ok (.aload_n 0, 1) := by decide +kernel
theorem dX11_right_1 : decode cX11_right 1 = .ok (.iload_n 1, 1) := by decide +kernel
theorem dX11_right_2 : decode cX11_right 2 = .ok (.invokevirtual 136, 3) := by decide +kernel
theorem dX11_right_5 : decode cX11_right 5 = .ok (.ifCond .ne 5, 3) := by decide +kernel
theorem dX11_right_8 : decode cX11_right 8 = .ok (.iconst (-1), 1) := by decide +kernel
theorem dX11_right_9 : decode cX11_right 9 = .ok (.ireturn, 1) := by decide +kernel
set_option maxRecDepth 100000 in
set_option maxHeartbeats 4000000 in
theorem c_X11_right {l : Launch} {n0 : Nat} {D : va_G} {cA : Nat → ClassId} {M : gM} (a b : Int) (r_a : -2147483648 ≤ a ∧ a ≤ 2147483647) (r_b : -2147483648 ≤ b ∧ b ≤ 2147483647) {sz : Nat} (hsz : 206 ≤ sz) (f_0_0 : M 0 0 = 2) (f_1_11 : M 1 11 = 0) : Met l yX11_right (gWsOf yX11_right cX11_right 4 (Option.some Jvm.ClassFile.FieldType.int)) { frames := 2, cells := 0, slots := 0, locals := 43 } (gPc n0 D cA [gA n0 0, gJ a, gJ b] M sz) (gQi n0 D cA sz (fun z M1 => (z = -1) ∧ ∀ a : Int, M1 a = M a)) 0 0 (fun q => n0 ≤ q) := by
  refine gMet_of [gA n0 0, gJ a, gJ b] (by decide) (Nat.le_of_ble_eq_true rfl) ?_
  intro p e s m args below meth cd X hr hm
  have X : gCx p s m args meth cd n0 D cA "ParishUnion" cX11_right 4 := X
  show G p l e ({ frames := 2, cells := 0, slots := 0, locals := 43 } : Room) s m args below meth cd n0 D cA 4 (MQ below (gQi n0 D cA sz (fun z M1 => (z = -1) ∧ ∀ a : Int, M1 a = M a)) args s 0 0 (fun q => n0 ≤ q)) 0 0 M sz 0 [(0, gA n0 0), (1, gJ a), (2, gJ b)] []
  refine g_aload_n (n := 1) X 0 dX11_right_0 rfl rfl rfl ?_
  refine g_iload_n (n := 2) X 1 dX11_right_1 rfl rfl rfl ?_
  refine g_callVi (n := 5) (As := [gJ a]) (rest := []) (cs1 := 0) (ss1 := 0) X (c_X11_isRight a (by omega) (by omega) f_0_0 f_1_11) okX11_isRight kw_3_96 ⟨kw_3_98, kw_0_1⟩ ⟨rfl, rfl⟩ ⟨Nat.le_of_ble_eq_true rfl, Nat.le_of_ble_eq_true rfl⟩ rfl (by omega) (by omega) lay_0 rfl rfl (Nat.le_of_ble_eq_true rfl) ⟨Nat.le_of_ble_eq_true rfl, Nat.le_of_ble_eq_true rfl⟩ rfl rfl dX11_right_2 rfl (fun z1 M2 P3 => ?_)
  obtain ⟨rfl, rfl⟩ := P3
  refine g_if_ne (n := 8) (tgt := 10) X dX11_right_5 (by decide) (by omega) rfl (fun c4 => by exfalso; omega) (fun c4 => ?_)
  refine g_iconst (n := 9) X dX11_right_8 rfl ?_
  exact g_ireturn X hr dX11_right_9 (by exact ⟨by omega, fun a  => rfl⟩)
theorem dX11_taken_0 : decode cX11_taken 0 = .ok (.aload_n 0, 1) := by decide +kernel
theorem dX11_taken_1 : decode cX11_taken 1 = .ok (.iload_n 1, 1) := by decide +kernel
theorem dX11_taken_2 : decode cX11_taken 2 = .ok (.invokevirtual 136, 3) := by decide +kernel
theorem dX11_taken_5 : decode cX11_taken 5 = .ok (.ifCond .eq 12, 3) := by decide +kernel
theorem dX11_taken_17 : decode cX11_taken 17 = .ok (.iconst (-1), 1) := by decide +kernel
theorem dX11_taken_18 : decode cX11_taken 18 = .ok (.ireturn, 1) := by decide +kernel
set_option maxRecDepth 100000 in
set_option maxHeartbeats 4000000 in
theorem c_X11_taken {l : Launch} {n0 : Nat} {D : va_G} {cA : Nat → ClassId} {M : gM} (a b : Int) (r_a : -2147483648 ≤ a ∧ a ≤ 2147483647) (r_b : -2147483648 ≤ b ∧ b ≤ 2147483647) {sz : Nat} (hsz : 206 ≤ sz) (f_0_0 : M 0 0 = 2) (f_1_11 : M 1 11 = 0) : Met l yX11_taken (gWsOf yX11_taken cX11_taken 4 (Option.some Jvm.ClassFile.FieldType.int)) { frames := 2, cells := 0, slots := 0, locals := 43 } (gPc n0 D cA [gA n0 0, gJ a, gJ b] M sz) (gQi n0 D cA sz (fun z M1 => (z = -1) ∧ ∀ a : Int, M1 a = M a)) 0 0 (fun q => n0 ≤ q) := by
  refine gMet_of [gA n0 0, gJ a, gJ b] (by decide) (Nat.le_of_ble_eq_true rfl) ?_
  intro p e s m args below meth cd X hr hm
  have X : gCx p s m args meth cd n0 D cA "ParishUnion" cX11_taken 4 := X
  show G p l e ({ frames := 2, cells := 0, slots := 0, locals := 43 } : Room) s m args below meth cd n0 D cA 4 (MQ below (gQi n0 D cA sz (fun z M1 => (z = -1) ∧ ∀ a : Int, M1 a = M a)) args s 0 0 (fun q => n0 ≤ q)) 0 0 M sz 0 [(0, gA n0 0), (1, gJ a), (2, gJ b)] []
  refine g_aload_n (n := 1) X 0 dX11_taken_0 rfl rfl rfl ?_
  refine g_iload_n (n := 2) X 1 dX11_taken_1 rfl rfl rfl ?_
  refine g_callVi (n := 5) (As := [gJ a]) (rest := []) (cs1 := 0) (ss1 := 0) X (c_X11_isRight a (by omega) (by omega) f_0_0 f_1_11) okX11_isRight kw_3_96 ⟨kw_3_98, kw_0_1⟩ ⟨rfl, rfl⟩ ⟨Nat.le_of_ble_eq_true rfl, Nat.le_of_ble_eq_true rfl⟩ rfl (by omega) (by omega) lay_0 rfl rfl (Nat.le_of_ble_eq_true rfl) ⟨Nat.le_of_ble_eq_true rfl, Nat.le_of_ble_eq_true rfl⟩ rfl rfl dX11_taken_2 rfl (fun z1 M2 P3 => ?_)
  obtain ⟨rfl, rfl⟩ := P3
  refine g_if_eq (n := 8) (tgt := 17) X dX11_taken_5 (by decide) (by omega) rfl (fun c4 => ?_) (fun c4 => by exfalso; omega)
  refine g_iconst (n := 18) X dX11_taken_17 rfl ?_
  exact g_ireturn X hr dX11_taken_18 (by exact ⟨by omega, fun a  => rfl⟩)
theorem dX11_settle_0 : decode cX11_settle 0 = .ok (.aload_n 0, 1) := by decide +kernel
theorem dX11_settle_1 : decode cX11_settle 1 = .ok (.iload_n 1, 1) := by decide +kernel
theorem dX11_settle_2 : decode cX11_settle 2 = .ok (.invokevirtual 82, 3) := by decide +kernel
theorem dX11_settle_5 : decode cX11_settle 5 = .ok (.ifCond .eq 19, 3) := by decide +kernel
theorem dX11_settle_24 : decode cX11_settle 24 = .ok (.iconst (-1), 1) := by decide +kernel
theorem dX11_settle_25 : decode cX11_settle 25 = .ok (.ireturn, 1) := by decide +kernel
set_option maxRecDepth 100000 in
set_option maxHeartbeats 4000000 in
theorem c_X11_settle {l : Launch} {n0 : Nat} {D : va_G} {cA : Nat → ClassId} {M : gM} (a b c d : Int) (r_a : -2147483648 ≤ a ∧ a ≤ 2147483647) (r_b : -2147483648 ≤ b ∧ b ≤ 2147483647) (r_c : -2147483648 ≤ c ∧ c ≤ 2147483647) (r_d : -2147483648 ≤ d ∧ d ≤ 2147483647) {sz : Nat} (hsz : 206 ≤ sz) (f_0_0 : M 0 0 = 2) (f_1_10 : M 1 10 = 0) : Met l yX11_settle (gWsOf yX11_settle cX11_settle 5 (Option.some Jvm.ClassFile.FieldType.int)) { frames := 6, cells := 0, slots := 0, locals := 167 } (gPc n0 D cA [gA n0 0, gJ a, gJ b, gJ c, gJ d] M sz) (gQi n0 D cA sz (fun z M1 => (z = -1) ∧ ∀ a : Int, M1 a = M a)) 0 0 (fun q => n0 ≤ q) := by
  refine gMet_of [gA n0 0, gJ a, gJ b, gJ c, gJ d] (by decide) (Nat.le_of_ble_eq_true rfl) ?_
  intro p e s m args below meth cd X hr hm
  have X : gCx p s m args meth cd n0 D cA "ParishUnion" cX11_settle 5 := X
  show G p l e ({ frames := 6, cells := 0, slots := 0, locals := 167 } : Room) s m args below meth cd n0 D cA 5 (MQ below (gQi n0 D cA sz (fun z M1 => (z = -1) ∧ ∀ a : Int, M1 a = M a)) args s 0 0 (fun q => n0 ≤ q)) 0 0 M sz 0 [(0, gA n0 0), (1, gJ a), (2, gJ b), (3, gJ c), (4, gJ d)] []
  refine g_aload_n (n := 1) X 0 dX11_settle_0 rfl rfl rfl ?_
  refine g_iload_n (n := 2) X 1 dX11_settle_1 rfl rfl rfl ?_
  refine g_callVi (n := 5) (As := [gJ a]) (rest := []) (cs1 := 0) (ss1 := 0) X (c_X11_isPerson a (by omega) (by omega) f_0_0 f_1_10) okX11_isPerson kw_3_56 ⟨kw_3_58, kw_0_0⟩ ⟨rfl, rfl⟩ ⟨Nat.le_of_ble_eq_true rfl, Nat.le_of_ble_eq_true rfl⟩ rfl (by omega) (by omega) lay_0 rfl rfl (Nat.le_of_ble_eq_true rfl) ⟨Nat.le_of_ble_eq_true rfl, Nat.le_of_ble_eq_true rfl⟩ rfl rfl dX11_settle_2 rfl (fun z1 M2 P3 => ?_)
  obtain ⟨rfl, rfl⟩ := P3
  refine g_if_eq (n := 8) (tgt := 24) X dX11_settle_5 (by decide) (by omega) rfl (fun c4 => ?_) (fun c4 => by exfalso; omega)
  refine g_iconst (n := 25) X dX11_settle_24 rfl ?_
  exact g_ireturn X hr dX11_settle_25 (by exact ⟨by omega, fun a  => rfl⟩)
theorem dX11_maybe_0 : decode cX11_maybe 0 = .ok (.aload_n 0, 1) := by decide +kernel
theorem dX11_maybe_1 : decode cX11_maybe 1 = .ok (.iload_n 1, 1) := by decide +kernel
theorem dX11_maybe_2 : decode cX11_maybe 2 = .ok (.invokevirtual 82, 3) := by decide +kernel
theorem dX11_maybe_5 : decode cX11_maybe 5 = .ok (.ifCond .eq 21, 3) := by decide +kernel
theorem dX11_maybe_26 : decode cX11_maybe 26 = .ok (.iconst (-1), 1) := by decide +kernel
theorem dX11_maybe_27 : decode cX11_maybe 27 = .ok (.ireturn, 1) := by decide +kernel
set_option maxRecDepth 100000 in
set_option maxHeartbeats 4000000 in
theorem c_X11_maybe {l : Launch} {n0 : Nat} {D : va_G} {cA : Nat → ClassId} {M : gM} (a b c d : Int) (r_a : -2147483648 ≤ a ∧ a ≤ 2147483647) (r_b : -2147483648 ≤ b ∧ b ≤ 2147483647) (r_c : -2147483648 ≤ c ∧ c ≤ 2147483647) (r_d : -2147483648 ≤ d ∧ d ≤ 2147483647) {sz : Nat} (hsz : 206 ≤ sz) (f_0_0 : M 0 0 = 2) (f_1_10 : M 1 10 = 0) : Met l yX11_maybe (gWsOf yX11_maybe cX11_maybe 5 (Option.some Jvm.ClassFile.FieldType.int)) { frames := 6, cells := 0, slots := 0, locals := 167 } (gPc n0 D cA [gA n0 0, gJ a, gJ b, gJ c, gJ d] M sz) (gQi n0 D cA sz (fun z M1 => (z = -1) ∧ ∀ a : Int, M1 a = M a)) 0 0 (fun q => n0 ≤ q) := by
  refine gMet_of [gA n0 0, gJ a, gJ b, gJ c, gJ d] (by decide) (Nat.le_of_ble_eq_true rfl) ?_
  intro p e s m args below meth cd X hr hm
  have X : gCx p s m args meth cd n0 D cA "ParishUnion" cX11_maybe 5 := X
  show G p l e ({ frames := 6, cells := 0, slots := 0, locals := 167 } : Room) s m args below meth cd n0 D cA 5 (MQ below (gQi n0 D cA sz (fun z M1 => (z = -1) ∧ ∀ a : Int, M1 a = M a)) args s 0 0 (fun q => n0 ≤ q)) 0 0 M sz 0 [(0, gA n0 0), (1, gJ a), (2, gJ b), (3, gJ c), (4, gJ d)] []
  refine g_aload_n (n := 1) X 0 dX11_maybe_0 rfl rfl rfl ?_
  refine g_iload_n (n := 2) X 1 dX11_maybe_1 rfl rfl rfl ?_
  refine g_callVi (n := 5) (As := [gJ a]) (rest := []) (cs1 := 0) (ss1 := 0) X (c_X11_isPerson a (by omega) (by omega) f_0_0 f_1_10) okX11_isPerson kw_3_56 ⟨kw_3_58, kw_0_0⟩ ⟨rfl, rfl⟩ ⟨Nat.le_of_ble_eq_true rfl, Nat.le_of_ble_eq_true rfl⟩ rfl (by omega) (by omega) lay_0 rfl rfl (Nat.le_of_ble_eq_true rfl) ⟨Nat.le_of_ble_eq_true rfl, Nat.le_of_ble_eq_true rfl⟩ rfl rfl dX11_maybe_2 rfl (fun z1 M2 P3 => ?_)
  obtain ⟨rfl, rfl⟩ := P3
  refine g_if_eq (n := 8) (tgt := 26) X dX11_maybe_5 (by decide) (by omega) rfl (fun c4 => ?_) (fun c4 => by exfalso; omega)
  refine g_iconst (n := 27) X dX11_maybe_26 rfl ?_
  exact g_ireturn X hr dX11_maybe_27 (by exact ⟨by omega, fun a  => rfl⟩)
theorem dX11_offer_0 : decode cX11_offer 0 = .ok (.aload_n 0, 1) := by decide +kernel
theorem dX11_offer_1 : decode cX11_offer 1 = .ok (.iload_n 1, 1) := by decide +kernel
theorem dX11_offer_2 : decode cX11_offer 2 = .ok (.invokevirtual 82, 3) := by decide +kernel
theorem dX11_offer_5 : decode cX11_offer 5 = .ok (.ifCond .eq 12, 3) := by decide +kernel
theorem dX11_offer_17 : decode cX11_offer 17 = .ok (.iconst (-1), 1) := by decide +kernel
theorem dX11_offer_18 : decode cX11_offer 18 = .ok (.ireturn, 1) := by decide +kernel
set_option maxRecDepth 100000 in
set_option maxHeartbeats 4000000 in
theorem c_X11_offer {l : Launch} {n0 : Nat} {D : va_G} {cA : Nat → ClassId} {M : gM} (a b : Int) (r_a : -2147483648 ≤ a ∧ a ≤ 2147483647) (r_b : -2147483648 ≤ b ∧ b ≤ 2147483647) {sz : Nat} (hsz : 206 ≤ sz) (f_0_0 : M 0 0 = 2) (f_1_10 : M 1 10 = 0) : Met l yX11_offer (gWsOf yX11_offer cX11_offer 4 (Option.some Jvm.ClassFile.FieldType.int)) { frames := 7, cells := 0, slots := 0, locals := 188 } (gPc n0 D cA [gA n0 0, gJ a, gJ b] M sz) (gQi n0 D cA sz (fun z M1 => (z = -1) ∧ ∀ a : Int, M1 a = M a)) 0 0 (fun q => n0 ≤ q) := by
  refine gMet_of [gA n0 0, gJ a, gJ b] (by decide) (Nat.le_of_ble_eq_true rfl) ?_
  intro p e s m args below meth cd X hr hm
  have X : gCx p s m args meth cd n0 D cA "ParishUnion" cX11_offer 4 := X
  show G p l e ({ frames := 7, cells := 0, slots := 0, locals := 188 } : Room) s m args below meth cd n0 D cA 4 (MQ below (gQi n0 D cA sz (fun z M1 => (z = -1) ∧ ∀ a : Int, M1 a = M a)) args s 0 0 (fun q => n0 ≤ q)) 0 0 M sz 0 [(0, gA n0 0), (1, gJ a), (2, gJ b)] []
  refine g_aload_n (n := 1) X 0 dX11_offer_0 rfl rfl rfl ?_
  refine g_iload_n (n := 2) X 1 dX11_offer_1 rfl rfl rfl ?_
  refine g_callVi (n := 5) (As := [gJ a]) (rest := []) (cs1 := 0) (ss1 := 0) X (c_X11_isPerson a (by omega) (by omega) f_0_0 f_1_10) okX11_isPerson kw_3_56 ⟨kw_3_58, kw_0_0⟩ ⟨rfl, rfl⟩ ⟨Nat.le_of_ble_eq_true rfl, Nat.le_of_ble_eq_true rfl⟩ rfl (by omega) (by omega) lay_0 rfl rfl (Nat.le_of_ble_eq_true rfl) ⟨Nat.le_of_ble_eq_true rfl, Nat.le_of_ble_eq_true rfl⟩ rfl rfl dX11_offer_2 rfl (fun z1 M2 P3 => ?_)
  obtain ⟨rfl, rfl⟩ := P3
  refine g_if_eq (n := 8) (tgt := 17) X dX11_offer_5 (by decide) (by omega) rfl (fun c4 => ?_) (fun c4 => by exfalso; omega)
  refine g_iconst (n := 18) X dX11_offer_17 rfl ?_
  exact g_ireturn X hr dX11_offer_18 (by exact ⟨by omega, fun a  => rfl⟩)
theorem dX11_order_0 : decode cX11_order 0 = .ok (.aload_n 0, 1) := by decide +kernel
theorem dX11_order_1 : decode cX11_order 1 = .ok (.iload_n 1, 1) := by decide +kernel
theorem dX11_order_2 : decode cX11_order 2 = .ok (.invokevirtual 82, 3) := by decide +kernel
theorem dX11_order_5 : decode cX11_order 5 = .ok (.ifCond .eq 10, 3) := by decide +kernel
theorem dX11_order_15 : decode cX11_order 15 = .ok (.iconst (-1), 1) := by decide +kernel
theorem dX11_order_16 : decode cX11_order 16 = .ok (.ireturn, 1) := by decide +kernel
set_option maxRecDepth 100000 in
set_option maxHeartbeats 4000000 in
theorem c_X11_order {l : Launch} {n0 : Nat} {D : va_G} {cA : Nat → ClassId} {M : gM} (a b : Int) (r_a : -2147483648 ≤ a ∧ a ≤ 2147483647) (r_b : -2147483648 ≤ b ∧ b ≤ 2147483647) {sz : Nat} (hsz : 206 ≤ sz) (f_0_0 : M 0 0 = 2) (f_1_10 : M 1 10 = 0) : Met l yX11_order (gWsOf yX11_order cX11_order 4 (Option.some Jvm.ClassFile.FieldType.int)) { frames := 2, cells := 0, slots := 0, locals := 43 } (gPc n0 D cA [gA n0 0, gJ a, gJ b] M sz) (gQi n0 D cA sz (fun z M1 => (z = -1) ∧ ∀ a : Int, M1 a = M a)) 0 0 (fun q => n0 ≤ q) := by
  refine gMet_of [gA n0 0, gJ a, gJ b] (by decide) (Nat.le_of_ble_eq_true rfl) ?_
  intro p e s m args below meth cd X hr hm
  have X : gCx p s m args meth cd n0 D cA "ParishUnion" cX11_order 4 := X
  show G p l e ({ frames := 2, cells := 0, slots := 0, locals := 43 } : Room) s m args below meth cd n0 D cA 4 (MQ below (gQi n0 D cA sz (fun z M1 => (z = -1) ∧ ∀ a : Int, M1 a = M a)) args s 0 0 (fun q => n0 ≤ q)) 0 0 M sz 0 [(0, gA n0 0), (1, gJ a), (2, gJ b)] []
  refine g_aload_n (n := 1) X 0 dX11_order_0 rfl rfl rfl ?_
  refine g_iload_n (n := 2) X 1 dX11_order_1 rfl rfl rfl ?_
  refine g_callVi (n := 5) (As := [gJ a]) (rest := []) (cs1 := 0) (ss1 := 0) X (c_X11_isPerson a (by omega) (by omega) f_0_0 f_1_10) okX11_isPerson kw_3_56 ⟨kw_3_58, kw_0_0⟩ ⟨rfl, rfl⟩ ⟨Nat.le_of_ble_eq_true rfl, Nat.le_of_ble_eq_true rfl⟩ rfl (by omega) (by omega) lay_0 rfl rfl (Nat.le_of_ble_eq_true rfl) ⟨Nat.le_of_ble_eq_true rfl, Nat.le_of_ble_eq_true rfl⟩ rfl rfl dX11_order_2 rfl (fun z1 M2 P3 => ?_)
  obtain ⟨rfl, rfl⟩ := P3
  refine g_if_eq (n := 8) (tgt := 15) X dX11_order_5 (by decide) (by omega) rfl (fun c4 => ?_) (fun c4 => by exfalso; omega)
  refine g_iconst (n := 16) X dX11_order_15 rfl ?_
  exact g_ireturn X hr dX11_order_16 (by exact ⟨by omega, fun a  => rfl⟩)
theorem dX11_appeal_0 : decode cX11_appeal 0 = .ok (.aload_n 0, 1) := by decide +kernel
theorem dX11_appeal_1 : decode cX11_appeal 1 = .ok (.iload_n 1, 1) := by decide +kernel
theorem dX11_appeal_2 : decode cX11_appeal 2 = .ok (.invokevirtual 260, 3) := by decide +kernel
theorem kw_4_139 : (Jvm.Cond.methodLink "ParishUnion" (260 : Nat) ({ cls := "ParishUnion", name := "isOrder", desc := "(I)Z" } : Jvm.MethodName)) ∈ gT := gT_of (tb_4 _ (List.mem_of_getElem? (i := 139) rfl)) rfl
theorem kw_4_142 : (Jvm.Cond.code ({ cls := "ParishUnion", name := "isOrder", desc := "(I)Z" } : Jvm.MethodName) prog_1_method_53_code (2 : Nat) (Option.some Jvm.ClassFile.FieldType.boolean)) ∈ gT := gT_of (tb_4 _ (List.mem_of_getElem? (i := 142) rfl)) rfl
theorem okX11_isOrder : gQok yX11_isOrder cX11_isOrder 2 (Option.some Jvm.ClassFile.FieldType.boolean) 1 := ⟨kw_4_142, kw_1_1, by decide +kernel, by decide +kernel, by decide +kernel⟩
theorem kw_4_141 : (Jvm.Cond.instanceMethod ({ cls := "ParishUnion", name := "isOrder", desc := "(I)Z" } : Jvm.MethodName)) ∈ gT := gT_of (tb_4 _ (List.mem_of_getElem? (i := 141) rfl)) rfl
theorem kw_0_20 : (Jvm.Cond.selects "ParishUnion" ({ cls := "ParishUnion", name := "isOrder", desc := "(I)Z" } : Jvm.MethodName) ({ cls := "ParishUnion", name := "isOrder", desc := "(I)Z" } : Jvm.MethodName)) ∈ gT := gT_of (tb_0 _ (List.mem_of_getElem? (i := 20) rfl)) rfl
theorem dX11_appeal_5 : decode cX11_appeal 5 = .ok (.ifCond .eq 18, 3) := by decide +kernel
theorem dX11_appeal_23 : decode cX11_appeal 23 = .ok (.iconst (-1), 1) := by decide +kernel
theorem dX11_appeal_24 : decode cX11_appeal 24 = .ok (.ireturn, 1) := by decide +kernel
set_option maxRecDepth 100000 in
set_option maxHeartbeats 4000000 in
theorem c_X11_appeal {l : Launch} {n0 : Nat} {D : va_G} {cA : Nat → ClassId} {M : gM} (a b c : Int) (r_a : -2147483648 ≤ a ∧ a ≤ 2147483647) (r_b : -2147483648 ≤ b ∧ b ≤ 2147483647) (r_c : -2147483648 ≤ c ∧ c ≤ 2147483647) {sz : Nat} (hsz : 206 ≤ sz) (f_0_0 : M 0 0 = 2) (f_1_5 : M 1 5 = 10) (f_9_5 : M 9 5 = 0) : Met l yX11_appeal (gWsOf yX11_appeal cX11_appeal 4 (Option.some Jvm.ClassFile.FieldType.int)) { frames := 6, cells := 0, slots := 0, locals := 167 } (gPc n0 D cA [gA n0 0, gJ a, gJ b, gJ c] M sz) (gQi n0 D cA sz (fun z M1 => (z = -1) ∧ ∀ a : Int, M1 a = M a)) 0 0 (fun q => n0 ≤ q) := by
  refine gMet_of [gA n0 0, gJ a, gJ b, gJ c] (by decide) (Nat.le_of_ble_eq_true rfl) ?_
  intro p e s m args below meth cd X hr hm
  have X : gCx p s m args meth cd n0 D cA "ParishUnion" cX11_appeal 4 := X
  show G p l e ({ frames := 6, cells := 0, slots := 0, locals := 167 } : Room) s m args below meth cd n0 D cA 4 (MQ below (gQi n0 D cA sz (fun z M1 => (z = -1) ∧ ∀ a : Int, M1 a = M a)) args s 0 0 (fun q => n0 ≤ q)) 0 0 M sz 0 [(0, gA n0 0), (1, gJ a), (2, gJ b), (3, gJ c)] []
  refine g_aload_n (n := 1) X 0 dX11_appeal_0 rfl rfl rfl ?_
  refine g_iload_n (n := 2) X 1 dX11_appeal_1 rfl rfl rfl ?_
  refine g_callVi (n := 5) (As := [gJ a]) (rest := []) (cs1 := 0) (ss1 := 0) X (c_X11_isOrder a (by omega) (by omega) f_0_0 f_1_5 f_9_5) okX11_isOrder kw_4_139 ⟨kw_4_141, kw_0_20⟩ ⟨rfl, rfl⟩ ⟨Nat.le_of_ble_eq_true rfl, Nat.le_of_ble_eq_true rfl⟩ rfl (by omega) (by omega) lay_0 rfl rfl (Nat.le_of_ble_eq_true rfl) ⟨Nat.le_of_ble_eq_true rfl, Nat.le_of_ble_eq_true rfl⟩ rfl rfl dX11_appeal_2 rfl (fun z1 M2 P3 => ?_)
  obtain ⟨rfl, rfl⟩ := P3
  refine g_if_eq (n := 8) (tgt := 23) X dX11_appeal_5 (by decide) (by omega) rfl (fun c4 => ?_) (fun c4 => by exfalso; omega)
  refine g_iconst (n := 24) X dX11_appeal_23 rfl ?_
  exact g_ireturn X hr dX11_appeal_24 (by exact ⟨by omega, fun a  => rfl⟩)
theorem dX11_carry_0 : decode cX11_carry 0 = .ok (.aload_n 0, 1) := by decide +kernel
theorem dX11_carry_1 : decode cX11_carry 1 = .ok (.iload_n 1, 1) := by decide +kernel
theorem dX11_carry_2 : decode cX11_carry 2 = .ok (.invokevirtual 260, 3) := by decide +kernel
theorem dX11_carry_5 : decode cX11_carry 5 = .ok (.ifCond .ne 5, 3) := by decide +kernel
theorem dX11_carry_8 : decode cX11_carry 8 = .ok (.iconst (-1), 1) := by decide +kernel
theorem dX11_carry_9 : decode cX11_carry 9 = .ok (.ireturn, 1) := by decide +kernel
set_option maxRecDepth 100000 in
set_option maxHeartbeats 4000000 in
theorem c_X11_carry {l : Launch} {n0 : Nat} {D : va_G} {cA : Nat → ClassId} {M : gM} (a : Int) (r_a : -2147483648 ≤ a ∧ a ≤ 2147483647) {sz : Nat} (hsz : 206 ≤ sz) (f_0_0 : M 0 0 = 2) (f_1_5 : M 1 5 = 10) (f_9_5 : M 9 5 = 0) : Met l yX11_carry (gWsOf yX11_carry cX11_carry 4 (Option.some Jvm.ClassFile.FieldType.int)) { frames := 2, cells := 0, slots := 0, locals := 43 } (gPc n0 D cA [gA n0 0, gJ a] M sz) (gQi n0 D cA sz (fun z M1 => (z = -1) ∧ ∀ a : Int, M1 a = M a)) 0 0 (fun q => n0 ≤ q) := by
  refine gMet_of [gA n0 0, gJ a] (by decide) (Nat.le_of_ble_eq_true rfl) ?_
  intro p e s m args below meth cd X hr hm
  have X : gCx p s m args meth cd n0 D cA "ParishUnion" cX11_carry 4 := X
  show G p l e ({ frames := 2, cells := 0, slots := 0, locals := 43 } : Room) s m args below meth cd n0 D cA 4 (MQ below (gQi n0 D cA sz (fun z M1 => (z = -1) ∧ ∀ a : Int, M1 a = M a)) args s 0 0 (fun q => n0 ≤ q)) 0 0 M sz 0 [(0, gA n0 0), (1, gJ a)] []
  refine g_aload_n (n := 1) X 0 dX11_carry_0 rfl rfl rfl ?_
  refine g_iload_n (n := 2) X 1 dX11_carry_1 rfl rfl rfl ?_
  refine g_callVi (n := 5) (As := [gJ a]) (rest := []) (cs1 := 0) (ss1 := 0) X (c_X11_isOrder a (by omega) (by omega) f_0_0 f_1_5 f_9_5) okX11_isOrder kw_4_139 ⟨kw_4_141, kw_0_20⟩ ⟨rfl, rfl⟩ ⟨Nat.le_of_ble_eq_true rfl, Nat.le_of_ble_eq_true rfl⟩ rfl (by omega) (by omega) lay_0 rfl rfl (Nat.le_of_ble_eq_true rfl) ⟨Nat.le_of_ble_eq_true rfl, Nat.le_of_ble_eq_true rfl⟩ rfl rfl dX11_carry_2 rfl (fun z1 M2 P3 => ?_)
  obtain ⟨rfl, rfl⟩ := P3
  refine g_if_ne (n := 8) (tgt := 10) X dX11_carry_5 (by decide) (by omega) rfl (fun c4 => by exfalso; omega) (fun c4 => ?_)
  refine g_iconst (n := 9) X dX11_carry_8 rfl ?_
  exact g_ireturn X hr dX11_carry_9 (by exact ⟨by omega, fun a  => rfl⟩)
theorem dX11_gone_0 : decode cX11_gone 0 = .ok (.aload_n 0, 1) := by decide +kernel
theorem dX11_gone_1 : decode cX11_gone 1 = .ok (.iload_n 1, 1) := by decide +kernel
theorem dX11_gone_2 : decode cX11_gone 2 = .ok (.invokevirtual 301, 3) := by decide +kernel
theorem kw_5_11 : (Jvm.Cond.methodLink "ParishUnion" (301 : Nat) ({ cls := "ParishUnion", name := "isGone", desc := "(I)Z" } : Jvm.MethodName)) ∈ gT := gT_of (tb_5 _ (List.mem_of_getElem? (i := 11) rfl)) rfl
theorem kw_5_14 : (Jvm.Cond.code ({ cls := "ParishUnion", name := "isGone", desc := "(I)Z" } : Jvm.MethodName) prog_1_method_55_code (2 : Nat) (Option.some Jvm.ClassFile.FieldType.boolean)) ∈ gT := gT_of (tb_5 _ (List.mem_of_getElem? (i := 14) rfl)) rfl
theorem okX11_isGone : gQok yX11_isGone cX11_isGone 2 (Option.some Jvm.ClassFile.FieldType.boolean) 1 := ⟨kw_5_14, kw_1_1, by decide +kernel, by decide +kernel, by decide +kernel⟩
theorem kw_5_13 : (Jvm.Cond.instanceMethod ({ cls := "ParishUnion", name := "isGone", desc := "(I)Z" } : Jvm.MethodName)) ∈ gT := gT_of (tb_5 _ (List.mem_of_getElem? (i := 13) rfl)) rfl
theorem kw_0_28 : (Jvm.Cond.selects "ParishUnion" ({ cls := "ParishUnion", name := "isGone", desc := "(I)Z" } : Jvm.MethodName) ({ cls := "ParishUnion", name := "isGone", desc := "(I)Z" } : Jvm.MethodName)) ∈ gT := gT_of (tb_0 _ (List.mem_of_getElem? (i := 28) rfl)) rfl
theorem dX11_gone_5 : decode cX11_gone 5 = .ok (.ifCond .eq 13, 3) := by decide +kernel
theorem dX11_gone_18 : decode cX11_gone 18 = .ok (.iconst (-1), 1) := by decide +kernel
theorem dX11_gone_19 : decode cX11_gone 19 = .ok (.ireturn, 1) := by decide +kernel
set_option maxRecDepth 100000 in
set_option maxHeartbeats 4000000 in
theorem c_X11_gone {l : Launch} {n0 : Nat} {D : va_G} {cA : Nat → ClassId} {M : gM} (a b : Int) (r_a : -2147483648 ≤ a ∧ a ≤ 2147483647) (r_b : -2147483648 ≤ b ∧ b ≤ 2147483647) {sz : Nat} (hsz : 206 ≤ sz) (f_0_0 : M 0 0 = 2) (f_1_15 : M 1 15 = 0) : Met l yX11_gone (gWsOf yX11_gone cX11_gone 3 (Option.some Jvm.ClassFile.FieldType.int)) { frames := 2, cells := 0, slots := 0, locals := 43 } (gPc n0 D cA [gA n0 0, gJ a, gJ b] M sz) (gQi n0 D cA sz (fun z M1 => (z = -1) ∧ ∀ a : Int, M1 a = M a)) 0 0 (fun q => n0 ≤ q) := by
  refine gMet_of [gA n0 0, gJ a, gJ b] (by decide) (Nat.le_of_ble_eq_true rfl) ?_
  intro p e s m args below meth cd X hr hm
  have X : gCx p s m args meth cd n0 D cA "ParishUnion" cX11_gone 3 := X
  show G p l e ({ frames := 2, cells := 0, slots := 0, locals := 43 } : Room) s m args below meth cd n0 D cA 3 (MQ below (gQi n0 D cA sz (fun z M1 => (z = -1) ∧ ∀ a : Int, M1 a = M a)) args s 0 0 (fun q => n0 ≤ q)) 0 0 M sz 0 [(0, gA n0 0), (1, gJ a), (2, gJ b)] []
  refine g_aload_n (n := 1) X 0 dX11_gone_0 rfl rfl rfl ?_
  refine g_iload_n (n := 2) X 1 dX11_gone_1 rfl rfl rfl ?_
  refine g_callVi (n := 5) (As := [gJ a]) (rest := []) (cs1 := 0) (ss1 := 0) X (c_X11_isGone a (by omega) (by omega) f_0_0 f_1_15) okX11_isGone kw_5_11 ⟨kw_5_13, kw_0_28⟩ ⟨rfl, rfl⟩ ⟨Nat.le_of_ble_eq_true rfl, Nat.le_of_ble_eq_true rfl⟩ rfl (by omega) (by omega) lay_0 rfl rfl (Nat.le_of_ble_eq_true rfl) ⟨Nat.le_of_ble_eq_true rfl, Nat.le_of_ble_eq_true rfl⟩ rfl rfl dX11_gone_2 rfl (fun z1 M2 P3 => ?_)
  obtain ⟨rfl, rfl⟩ := P3
  refine g_if_eq (n := 8) (tgt := 18) X dX11_gone_5 (by decide) (by omega) rfl (fun c4 => ?_) (fun c4 => by exfalso; omega)
  refine g_iconst (n := 19) X dX11_gone_18 rfl ?_
  exact g_ireturn X hr dX11_gone_19 (by exact ⟨by omega, fun a  => rfl⟩)
theorem dX11_was_0 : decode cX11_was 0 = .ok (.aload_n 0, 1) := by decide +kernel
theorem dX11_was_1 : decode cX11_was 1 = .ok (.iload_n 1, 1) := by decide +kernel
theorem dX11_was_2 : decode cX11_was 2 = .ok (.invokevirtual 82, 3) := by decide +kernel
theorem dX11_was_5 : decode cX11_was 5 = .ok (.ifCond .eq 20, 3) := by decide +kernel
theorem dX11_was_25 : decode cX11_was 25 = .ok (.iconst (-1), 1) := by decide +kernel
theorem dX11_was_26 : decode cX11_was 26 = .ok (.ireturn, 1) := by decide +kernel
set_option maxRecDepth 100000 in
set_option maxHeartbeats 4000000 in
theorem c_X11_was {l : Launch} {n0 : Nat} {D : va_G} {cA : Nat → ClassId} {M : gM} (a b c : Int) (r_a : -2147483648 ≤ a ∧ a ≤ 2147483647) (r_b : -2147483648 ≤ b ∧ b ≤ 2147483647) (r_c : -2147483648 ≤ c ∧ c ≤ 2147483647) {sz : Nat} (hsz : 206 ≤ sz) (f_0_0 : M 0 0 = 2) (f_1_10 : M 1 10 = 0) : Met l yX11_was (gWsOf yX11_was cX11_was 5 (Option.some Jvm.ClassFile.FieldType.int)) { frames := 3, cells := 0, slots := 0, locals := 66 } (gPc n0 D cA [gA n0 0, gJ a, gJ b, gJ c] M sz) (gQi n0 D cA sz (fun z M1 => (z = -1) ∧ ∀ a : Int, M1 a = M a)) 0 0 (fun q => n0 ≤ q) := by
  refine gMet_of [gA n0 0, gJ a, gJ b, gJ c] (by decide) (Nat.le_of_ble_eq_true rfl) ?_
  intro p e s m args below meth cd X hr hm
  have X : gCx p s m args meth cd n0 D cA "ParishUnion" cX11_was 5 := X
  show G p l e ({ frames := 3, cells := 0, slots := 0, locals := 66 } : Room) s m args below meth cd n0 D cA 5 (MQ below (gQi n0 D cA sz (fun z M1 => (z = -1) ∧ ∀ a : Int, M1 a = M a)) args s 0 0 (fun q => n0 ≤ q)) 0 0 M sz 0 [(0, gA n0 0), (1, gJ a), (2, gJ b), (3, gJ c)] []
  refine g_aload_n (n := 1) X 0 dX11_was_0 rfl rfl rfl ?_
  refine g_iload_n (n := 2) X 1 dX11_was_1 rfl rfl rfl ?_
  refine g_callVi (n := 5) (As := [gJ a]) (rest := []) (cs1 := 0) (ss1 := 0) X (c_X11_isPerson a (by omega) (by omega) f_0_0 f_1_10) okX11_isPerson kw_3_56 ⟨kw_3_58, kw_0_0⟩ ⟨rfl, rfl⟩ ⟨Nat.le_of_ble_eq_true rfl, Nat.le_of_ble_eq_true rfl⟩ rfl (by omega) (by omega) lay_0 rfl rfl (Nat.le_of_ble_eq_true rfl) ⟨Nat.le_of_ble_eq_true rfl, Nat.le_of_ble_eq_true rfl⟩ rfl rfl dX11_was_2 rfl (fun z1 M2 P3 => ?_)
  obtain ⟨rfl, rfl⟩ := P3
  refine g_if_eq (n := 8) (tgt := 25) X dX11_was_5 (by decide) (by omega) rfl (fun c4 => ?_) (fun c4 => by exfalso; omega)
  refine g_iconst (n := 26) X dX11_was_25 rfl ?_
  exact g_ireturn X hr dX11_was_26 (by exact ⟨by omega, fun a  => rfl⟩)
theorem dX11_share_0 : decode cX11_share 0 = .ok (.iload_n 1, 1) := by decide +kernel
theorem dX11_share_1 : decode cX11_share 1 = .ok (.invokestatic 58, 3) := by decide +kernel
theorem dX11_share_4 : decode cX11_share 4 = .ok (.ifCond .eq 19, 3) := by decide +kernel
theorem dX11_share_23 : decode cX11_share 23 = .ok (.iconst (-1), 1) := by decide +kernel
theorem dX11_share_24 : decode cX11_share 24 = .ok (.ireturn, 1) := by decide +kernel
theorem dX11_share_7 : decode cX11_share 7 = .ok (.aload_n 0, 1) := by decide +kernel
theorem dX11_share_8 : decode cX11_share 8 = .ok (.iload_n 2, 1) := by decide +kernel
theorem dX11_share_9 : decode cX11_share 9 = .ok (.invokevirtual 301, 3) := by decide +kernel
theorem dX11_share_12 : decode cX11_share 12 = .ok (.ifCond .eq 11, 3) := by decide +kernel
set_option maxRecDepth 100000 in
set_option maxHeartbeats 4000000 in
theorem c_X11_share {l : Launch} {n0 : Nat} {D : va_G} {cA : Nat → ClassId} {M : gM} (a b c : Int) (r_a : -2147483648 ≤ a ∧ a ≤ 2147483647) (r_b : -2147483648 ≤ b ∧ b ≤ 2147483647) (r_c : -2147483648 ≤ c ∧ c ≤ 2147483647) {sz : Nat} (hsz : 206 ≤ sz) (f_0_0 : M 0 0 = 2) (f_1_15 : M 1 15 = 0) : Met l yX11_share (gWsOf yX11_share cX11_share 4 (Option.some Jvm.ClassFile.FieldType.int)) { frames := 6, cells := 0, slots := 0, locals := 167 } (gPc n0 D cA [gA n0 0, gJ a, gJ b, gJ c] M sz) (gQi n0 D cA sz (fun z M1 => (z = -1) ∧ ∀ a : Int, M1 a = M a)) 0 0 (fun q => n0 ≤ q) := by
  refine gMet_of [gA n0 0, gJ a, gJ b, gJ c] (by decide) (Nat.le_of_ble_eq_true rfl) ?_
  intro p e s m args below meth cd X hr hm
  have X : gCx p s m args meth cd n0 D cA "ParishUnion" cX11_share 4 := X
  show G p l e ({ frames := 6, cells := 0, slots := 0, locals := 167 } : Room) s m args below meth cd n0 D cA 4 (MQ below (gQi n0 D cA sz (fun z M1 => (z = -1) ∧ ∀ a : Int, M1 a = M a)) args s 0 0 (fun q => n0 ≤ q)) 0 0 M sz 0 [(0, gA n0 0), (1, gJ a), (2, gJ b), (3, gJ c)] []
  refine g_iload_n (n := 1) X 1 dX11_share_0 rfl rfl rfl ?_
  refine g_callSi (n := 4) (As := [gJ a]) (rest := []) (cs1 := 0) (ss1 := 0) X (c_X11_isParish a (by omega) (by omega)) okX11_isParish kw_3_26 kw_3_27 ⟨rfl, rfl⟩ ⟨Nat.le_of_ble_eq_true rfl, Nat.le_of_ble_eq_true rfl⟩ rfl rfl (Nat.le_of_ble_eq_true rfl) ⟨Nat.le_of_ble_eq_true rfl, Nat.le_of_ble_eq_true rfl⟩ rfl rfl dX11_share_1 rfl (fun z1 M2 P3 => ?_)
  obtain ⟨rfl, P3⟩ := P3
  refine g_if_eq (n := 7) (tgt := 23) X dX11_share_4 (by decide) (by omega) rfl (fun c4 => ?_) (fun c4 => ?_)
  · refine g_iconst (n := 24) X dX11_share_23 rfl ?_
    exact g_ireturn X hr dX11_share_24 (by exact ⟨by omega, fun a  => rfl⟩)
  · refine g_aload_n (n := 8) X 0 dX11_share_7 rfl rfl rfl ?_
    refine g_iload_n (n := 9) X 2 dX11_share_8 rfl rfl rfl ?_
    refine g_callVi (n := 12) (As := [gJ b]) (rest := []) (cs1 := 0) (ss1 := 0) X (c_X11_isGone b (by omega) (by omega) f_0_0 f_1_15) okX11_isGone kw_5_11 ⟨kw_5_13, kw_0_28⟩ ⟨rfl, rfl⟩ ⟨Nat.le_of_ble_eq_true rfl, Nat.le_of_ble_eq_true rfl⟩ rfl (by omega) (by omega) lay_0 rfl rfl (Nat.le_of_ble_eq_true rfl) ⟨Nat.le_of_ble_eq_true rfl, Nat.le_of_ble_eq_true rfl⟩ rfl rfl dX11_share_9 rfl (fun z5 M6 P7 => ?_)
    obtain ⟨rfl, rfl⟩ := P7
    refine g_if_eq (n := 15) (tgt := 23) X dX11_share_12 (by decide) (by omega) rfl (fun c8 => ?_) (fun c8 => by exfalso; omega)
    refine g_iconst (n := 24) X dX11_share_23 rfl ?_
    exact g_ireturn X hr dX11_share_24 (by exact ⟨by omega, fun a  => rfl⟩)
theorem dX11_sink_0 : decode cX11_sink 0 = .ok (.aload_n 0, 1) := by decide +kernel
theorem dX11_sink_1 : decode cX11_sink 1 = .ok (.iload_n 1, 1) := by decide +kernel
theorem dX11_sink_2 : decode cX11_sink 2 = .ok (.invokevirtual 301, 3) := by decide +kernel
theorem dX11_sink_5 : decode cX11_sink 5 = .ok (.ifCond .eq 19, 3) := by decide +kernel
theorem dX11_sink_24 : decode cX11_sink 24 = .ok (.iconst (-1), 1) := by decide +kernel
theorem dX11_sink_25 : decode cX11_sink 25 = .ok (.ireturn, 1) := by decide +kernel
set_option maxRecDepth 100000 in
set_option maxHeartbeats 4000000 in
theorem c_X11_sink {l : Launch} {n0 : Nat} {D : va_G} {cA : Nat → ClassId} {M : gM} (a b c : Int) (r_a : -2147483648 ≤ a ∧ a ≤ 2147483647) (r_b : -2147483648 ≤ b ∧ b ≤ 2147483647) (r_c : -2147483648 ≤ c ∧ c ≤ 2147483647) {sz : Nat} (hsz : 206 ≤ sz) (f_0_0 : M 0 0 = 2) (f_1_15 : M 1 15 = 0) : Met l yX11_sink (gWsOf yX11_sink cX11_sink 6 (Option.some Jvm.ClassFile.FieldType.int)) { frames := 6, cells := 0, slots := 0, locals := 167 } (gPc n0 D cA [gA n0 0, gJ a, gJ b, gJ c] M sz) (gQi n0 D cA sz (fun z M1 => (z = -1) ∧ ∀ a : Int, M1 a = M a)) 0 0 (fun q => n0 ≤ q) := by
  refine gMet_of [gA n0 0, gJ a, gJ b, gJ c] (by decide) (Nat.le_of_ble_eq_true rfl) ?_
  intro p e s m args below meth cd X hr hm
  have X : gCx p s m args meth cd n0 D cA "ParishUnion" cX11_sink 6 := X
  show G p l e ({ frames := 6, cells := 0, slots := 0, locals := 167 } : Room) s m args below meth cd n0 D cA 6 (MQ below (gQi n0 D cA sz (fun z M1 => (z = -1) ∧ ∀ a : Int, M1 a = M a)) args s 0 0 (fun q => n0 ≤ q)) 0 0 M sz 0 [(0, gA n0 0), (1, gJ a), (2, gJ b), (3, gJ c)] []
  refine g_aload_n (n := 1) X 0 dX11_sink_0 rfl rfl rfl ?_
  refine g_iload_n (n := 2) X 1 dX11_sink_1 rfl rfl rfl ?_
  refine g_callVi (n := 5) (As := [gJ a]) (rest := []) (cs1 := 0) (ss1 := 0) X (c_X11_isGone a (by omega) (by omega) f_0_0 f_1_15) okX11_isGone kw_5_11 ⟨kw_5_13, kw_0_28⟩ ⟨rfl, rfl⟩ ⟨Nat.le_of_ble_eq_true rfl, Nat.le_of_ble_eq_true rfl⟩ rfl (by omega) (by omega) lay_0 rfl rfl (Nat.le_of_ble_eq_true rfl) ⟨Nat.le_of_ble_eq_true rfl, Nat.le_of_ble_eq_true rfl⟩ rfl rfl dX11_sink_2 rfl (fun z1 M2 P3 => ?_)
  obtain ⟨rfl, rfl⟩ := P3
  refine g_if_eq (n := 8) (tgt := 24) X dX11_sink_5 (by decide) (by omega) rfl (fun c4 => ?_) (fun c4 => by exfalso; omega)
  refine g_iconst (n := 25) X dX11_sink_24 rfl ?_
  exact g_ireturn X hr dX11_sink_25 (by exact ⟨by omega, fun a  => rfl⟩)
theorem dX11_owed_0 : decode cX11_owed 0 = .ok (.iload_n 1, 1) := by decide +kernel
theorem dX11_owed_1 : decode cX11_owed 1 = .ok (.invokestatic 58, 3) := by decide +kernel
theorem dX11_owed_4 : decode cX11_owed 4 = .ok (.ifCond .eq 28, 3) := by decide +kernel
theorem dX11_owed_32 : decode cX11_owed 32 = .ok (.iconst (-1), 1) := by decide +kernel
theorem dX11_owed_33 : decode cX11_owed 33 = .ok (.ireturn, 1) := by decide +kernel
theorem dX11_owed_7 : decode cX11_owed 7 = .ok (.aload_n 0, 1) := by decide +kernel
theorem dX11_owed_8 : decode cX11_owed 8 = .ok (.iload_n 2, 1) := by decide +kernel
theorem dX11_owed_9 : decode cX11_owed 9 = .ok (.invokevirtual 301, 3) := by decide +kernel
theorem dX11_owed_12 : decode cX11_owed 12 = .ok (.ifCond .eq 20, 3) := by decide +kernel
set_option maxRecDepth 100000 in
set_option maxHeartbeats 4000000 in
theorem c_X11_owed {l : Launch} {n0 : Nat} {D : va_G} {cA : Nat → ClassId} {M : gM} (a b c d : Int) (r_a : -2147483648 ≤ a ∧ a ≤ 2147483647) (r_b : -2147483648 ≤ b ∧ b ≤ 2147483647) (r_c : -2147483648 ≤ c ∧ c ≤ 2147483647) (r_d : -2147483648 ≤ d ∧ d ≤ 2147483647) {sz : Nat} (hsz : 206 ≤ sz) (f_0_0 : M 0 0 = 2) (f_1_15 : M 1 15 = 0) : Met l yX11_owed (gWsOf yX11_owed cX11_owed 9 (Option.some Jvm.ClassFile.FieldType.int)) { frames := 6, cells := 0, slots := 0, locals := 167 } (gPc n0 D cA [gA n0 0, gJ a, gJ b, gJ c, gJ d] M sz) (gQi n0 D cA sz (fun z M1 => (z = -1) ∧ ∀ a : Int, M1 a = M a)) 0 0 (fun q => n0 ≤ q) := by
  refine gMet_of [gA n0 0, gJ a, gJ b, gJ c, gJ d] (by decide) (Nat.le_of_ble_eq_true rfl) ?_
  intro p e s m args below meth cd X hr hm
  have X : gCx p s m args meth cd n0 D cA "ParishUnion" cX11_owed 9 := X
  show G p l e ({ frames := 6, cells := 0, slots := 0, locals := 167 } : Room) s m args below meth cd n0 D cA 9 (MQ below (gQi n0 D cA sz (fun z M1 => (z = -1) ∧ ∀ a : Int, M1 a = M a)) args s 0 0 (fun q => n0 ≤ q)) 0 0 M sz 0 [(0, gA n0 0), (1, gJ a), (2, gJ b), (3, gJ c), (4, gJ d)] []
  refine g_iload_n (n := 1) X 1 dX11_owed_0 rfl rfl rfl ?_
  refine g_callSi (n := 4) (As := [gJ a]) (rest := []) (cs1 := 0) (ss1 := 0) X (c_X11_isParish a (by omega) (by omega)) okX11_isParish kw_3_26 kw_3_27 ⟨rfl, rfl⟩ ⟨Nat.le_of_ble_eq_true rfl, Nat.le_of_ble_eq_true rfl⟩ rfl rfl (Nat.le_of_ble_eq_true rfl) ⟨Nat.le_of_ble_eq_true rfl, Nat.le_of_ble_eq_true rfl⟩ rfl rfl dX11_owed_1 rfl (fun z1 M2 P3 => ?_)
  obtain ⟨rfl, P3⟩ := P3
  refine g_if_eq (n := 7) (tgt := 32) X dX11_owed_4 (by decide) (by omega) rfl (fun c4 => ?_) (fun c4 => ?_)
  · refine g_iconst (n := 33) X dX11_owed_32 rfl ?_
    exact g_ireturn X hr dX11_owed_33 (by exact ⟨by omega, fun a  => rfl⟩)
  · refine g_aload_n (n := 8) X 0 dX11_owed_7 rfl rfl rfl ?_
    refine g_iload_n (n := 9) X 2 dX11_owed_8 rfl rfl rfl ?_
    refine g_callVi (n := 12) (As := [gJ b]) (rest := []) (cs1 := 0) (ss1 := 0) X (c_X11_isGone b (by omega) (by omega) f_0_0 f_1_15) okX11_isGone kw_5_11 ⟨kw_5_13, kw_0_28⟩ ⟨rfl, rfl⟩ ⟨Nat.le_of_ble_eq_true rfl, Nat.le_of_ble_eq_true rfl⟩ rfl (by omega) (by omega) lay_0 rfl rfl (Nat.le_of_ble_eq_true rfl) ⟨Nat.le_of_ble_eq_true rfl, Nat.le_of_ble_eq_true rfl⟩ rfl rfl dX11_owed_9 rfl (fun z5 M6 P7 => ?_)
    obtain ⟨rfl, rfl⟩ := P7
    refine g_if_eq (n := 15) (tgt := 32) X dX11_owed_12 (by decide) (by omega) rfl (fun c8 => ?_) (fun c8 => by exfalso; omega)
    refine g_iconst (n := 33) X dX11_owed_32 rfl ?_
    exact g_ireturn X hr dX11_owed_33 (by exact ⟨by omega, fun a  => rfl⟩)
theorem dX11_bind_0 : decode cX11_bind 0 = .ok (.aload_n 0, 1) := by decide +kernel
theorem dX11_bind_1 : decode cX11_bind 1 = .ok (.iload_n 1, 1) := by decide +kernel
theorem dX11_bind_2 : decode cX11_bind 2 = .ok (.invokevirtual 82, 3) := by decide +kernel
theorem dX11_bind_5 : decode cX11_bind 5 = .ok (.ifCond .eq 12, 3) := by decide +kernel
theorem dX11_bind_17 : decode cX11_bind 17 = .ok (.iconst (-1), 1) := by decide +kernel
theorem dX11_bind_18 : decode cX11_bind 18 = .ok (.ireturn, 1) := by decide +kernel
set_option maxRecDepth 100000 in
set_option maxHeartbeats 4000000 in
theorem c_X11_bind {l : Launch} {n0 : Nat} {D : va_G} {cA : Nat → ClassId} {M : gM} (a b : Int) (r_a : -2147483648 ≤ a ∧ a ≤ 2147483647) (r_b : -2147483648 ≤ b ∧ b ≤ 2147483647) {sz : Nat} (hsz : 206 ≤ sz) (f_0_0 : M 0 0 = 2) (f_1_10 : M 1 10 = 0) : Met l yX11_bind (gWsOf yX11_bind cX11_bind 7 (Option.some Jvm.ClassFile.FieldType.int)) { frames := 2, cells := 0, slots := 0, locals := 48 } (gPc n0 D cA [gA n0 0, gJ a, gJ b] M sz) (gQi n0 D cA sz (fun z M1 => (z = -1) ∧ ∀ a : Int, M1 a = M a)) 0 0 (fun q => n0 ≤ q) := by
  refine gMet_of [gA n0 0, gJ a, gJ b] (by decide) (Nat.le_of_ble_eq_true rfl) ?_
  intro p e s m args below meth cd X hr hm
  have X : gCx p s m args meth cd n0 D cA "ParishUnion" cX11_bind 7 := X
  show G p l e ({ frames := 2, cells := 0, slots := 0, locals := 48 } : Room) s m args below meth cd n0 D cA 7 (MQ below (gQi n0 D cA sz (fun z M1 => (z = -1) ∧ ∀ a : Int, M1 a = M a)) args s 0 0 (fun q => n0 ≤ q)) 0 0 M sz 0 [(0, gA n0 0), (1, gJ a), (2, gJ b)] []
  refine g_aload_n (n := 1) X 0 dX11_bind_0 rfl rfl rfl ?_
  refine g_iload_n (n := 2) X 1 dX11_bind_1 rfl rfl rfl ?_
  refine g_callVi (n := 5) (As := [gJ a]) (rest := []) (cs1 := 0) (ss1 := 0) X (c_X11_isPerson a (by omega) (by omega) f_0_0 f_1_10) okX11_isPerson kw_3_56 ⟨kw_3_58, kw_0_0⟩ ⟨rfl, rfl⟩ ⟨Nat.le_of_ble_eq_true rfl, Nat.le_of_ble_eq_true rfl⟩ rfl (by omega) (by omega) lay_0 rfl rfl (Nat.le_of_ble_eq_true rfl) ⟨Nat.le_of_ble_eq_true rfl, Nat.le_of_ble_eq_true rfl⟩ rfl rfl dX11_bind_2 rfl (fun z1 M2 P3 => ?_)
  obtain ⟨rfl, rfl⟩ := P3
  refine g_if_eq (n := 8) (tgt := 17) X dX11_bind_5 (by decide) (by omega) rfl (fun c4 => ?_) (fun c4 => by exfalso; omega)
  refine g_iconst (n := 18) X dX11_bind_17 rfl ?_
  exact g_ireturn X hr dX11_bind_18 (by exact ⟨by omega, fun a  => rfl⟩)
theorem dX11_run_0 : decode cX11_run 0 = .ok (.aload_n 0, 1) := by decide +kernel
theorem dX11_run_1 : decode cX11_run 1 = .ok (.iload_n 1, 1) := by decide +kernel
theorem dX11_run_2 : decode cX11_run 2 = .ok (.invokevirtual 82, 3) := by decide +kernel
theorem dX11_run_5 : decode cX11_run 5 = .ok (.ifCond .ne 5, 3) := by decide +kernel
theorem dX11_run_8 : decode cX11_run 8 = .ok (.iconst (-1), 1) := by decide +kernel
theorem dX11_run_9 : decode cX11_run 9 = .ok (.ireturn, 1) := by decide +kernel
set_option maxRecDepth 100000 in
set_option maxHeartbeats 4000000 in
theorem c_X11_run {l : Launch} {n0 : Nat} {D : va_G} {cA : Nat → ClassId} {M : gM} (a : Int) (r_a : -2147483648 ≤ a ∧ a ≤ 2147483647) {sz : Nat} (hsz : 206 ≤ sz) (f_0_0 : M 0 0 = 2) (f_1_10 : M 1 10 = 0) : Met l yX11_run (gWsOf yX11_run cX11_run 3 (Option.some Jvm.ClassFile.FieldType.int)) { frames := 2, cells := 0, slots := 0, locals := 43 } (gPc n0 D cA [gA n0 0, gJ a] M sz) (gQi n0 D cA sz (fun z M1 => (z = -1) ∧ ∀ a : Int, M1 a = M a)) 0 0 (fun q => n0 ≤ q) := by
  refine gMet_of [gA n0 0, gJ a] (by decide) (Nat.le_of_ble_eq_true rfl) ?_
  intro p e s m args below meth cd X hr hm
  have X : gCx p s m args meth cd n0 D cA "ParishUnion" cX11_run 3 := X
  show G p l e ({ frames := 2, cells := 0, slots := 0, locals := 43 } : Room) s m args below meth cd n0 D cA 3 (MQ below (gQi n0 D cA sz (fun z M1 => (z = -1) ∧ ∀ a : Int, M1 a = M a)) args s 0 0 (fun q => n0 ≤ q)) 0 0 M sz 0 [(0, gA n0 0), (1, gJ a)] []
  refine g_aload_n (n := 1) X 0 dX11_run_0 rfl rfl rfl ?_
  refine g_iload_n (n := 2) X 1 dX11_run_1 rfl rfl rfl ?_
  refine g_callVi (n := 5) (As := [gJ a]) (rest := []) (cs1 := 0) (ss1 := 0) X (c_X11_isPerson a (by omega) (by omega) f_0_0 f_1_10) okX11_isPerson kw_3_56 ⟨kw_3_58, kw_0_0⟩ ⟨rfl, rfl⟩ ⟨Nat.le_of_ble_eq_true rfl, Nat.le_of_ble_eq_true rfl⟩ rfl (by omega) (by omega) lay_0 rfl rfl (Nat.le_of_ble_eq_true rfl) ⟨Nat.le_of_ble_eq_true rfl, Nat.le_of_ble_eq_true rfl⟩ rfl rfl dX11_run_2 rfl (fun z1 M2 P3 => ?_)
  obtain ⟨rfl, rfl⟩ := P3
  refine g_if_ne (n := 8) (tgt := 10) X dX11_run_5 (by decide) (by omega) rfl (fun c4 => by exfalso; omega) (fun c4 => ?_)
  refine g_iconst (n := 9) X dX11_run_8 rfl ?_
  exact g_ireturn X hr dX11_run_9 (by exact ⟨by omega, fun a  => rfl⟩)
theorem dX11_told_0 : decode cX11_told 0 = .ok (.aload_n 0, 1) := by decide +kernel
theorem dX11_told_1 : decode cX11_told 1 = .ok (.iload_n 1, 1) := by decide +kernel
theorem dX11_told_2 : decode cX11_told 2 = .ok (.invokevirtual 82, 3) := by decide +kernel
theorem dX11_told_5 : decode cX11_told 5 = .ok (.ifCond .ne 5, 3) := by decide +kernel
theorem dX11_told_8 : decode cX11_told 8 = .ok (.iconst (-1), 1) := by decide +kernel
theorem dX11_told_9 : decode cX11_told 9 = .ok (.ireturn, 1) := by decide +kernel
set_option maxRecDepth 100000 in
set_option maxHeartbeats 4000000 in
theorem c_X11_told {l : Launch} {n0 : Nat} {D : va_G} {cA : Nat → ClassId} {M : gM} (a b : Int) (r_a : -2147483648 ≤ a ∧ a ≤ 2147483647) (r_b : -2147483648 ≤ b ∧ b ≤ 2147483647) {sz : Nat} (hsz : 206 ≤ sz) (f_0_0 : M 0 0 = 2) (f_1_10 : M 1 10 = 0) : Met l yX11_told (gWsOf yX11_told cX11_told 4 (Option.some Jvm.ClassFile.FieldType.int)) { frames := 2, cells := 0, slots := 0, locals := 43 } (gPc n0 D cA [gA n0 0, gJ a, gJ b] M sz) (gQi n0 D cA sz (fun z M1 => (z = -1) ∧ ∀ a : Int, M1 a = M a)) 0 0 (fun q => n0 ≤ q) := by
  refine gMet_of [gA n0 0, gJ a, gJ b] (by decide) (Nat.le_of_ble_eq_true rfl) ?_
  intro p e s m args below meth cd X hr hm
  have X : gCx p s m args meth cd n0 D cA "ParishUnion" cX11_told 4 := X
  show G p l e ({ frames := 2, cells := 0, slots := 0, locals := 43 } : Room) s m args below meth cd n0 D cA 4 (MQ below (gQi n0 D cA sz (fun z M1 => (z = -1) ∧ ∀ a : Int, M1 a = M a)) args s 0 0 (fun q => n0 ≤ q)) 0 0 M sz 0 [(0, gA n0 0), (1, gJ a), (2, gJ b)] []
  refine g_aload_n (n := 1) X 0 dX11_told_0 rfl rfl rfl ?_
  refine g_iload_n (n := 2) X 1 dX11_told_1 rfl rfl rfl ?_
  refine g_callVi (n := 5) (As := [gJ a]) (rest := []) (cs1 := 0) (ss1 := 0) X (c_X11_isPerson a (by omega) (by omega) f_0_0 f_1_10) okX11_isPerson kw_3_56 ⟨kw_3_58, kw_0_0⟩ ⟨rfl, rfl⟩ ⟨Nat.le_of_ble_eq_true rfl, Nat.le_of_ble_eq_true rfl⟩ rfl (by omega) (by omega) lay_0 rfl rfl (Nat.le_of_ble_eq_true rfl) ⟨Nat.le_of_ble_eq_true rfl, Nat.le_of_ble_eq_true rfl⟩ rfl rfl dX11_told_2 rfl (fun z1 M2 P3 => ?_)
  obtain ⟨rfl, rfl⟩ := P3
  refine g_if_ne (n := 8) (tgt := 10) X dX11_told_5 (by decide) (by omega) rfl (fun c4 => by exfalso; omega) (fun c4 => ?_)
  refine g_iconst (n := 9) X dX11_told_8 rfl ?_
  exact g_ireturn X hr dX11_told_9 (by exact ⟨by omega, fun a  => rfl⟩)
theorem dX11_check_0 : decode cX11_check 0 = .ok (.aload_n 0, 1) := by decide +kernel
theorem dX11_check_1 : decode cX11_check 1 = .ok (.iload_n 1, 1) := by decide +kernel
theorem dX11_check_2 : decode cX11_check 2 = .ok (.invokevirtual 301, 3) := by decide +kernel
theorem dX11_check_5 : decode cX11_check 5 = .ok (.ifCond .ne 5, 3) := by decide +kernel
theorem dX11_check_8 : decode cX11_check 8 = .ok (.iconst (-1), 1) := by decide +kernel
theorem dX11_check_9 : decode cX11_check 9 = .ok (.ireturn, 1) := by decide +kernel
set_option maxRecDepth 100000 in
set_option maxHeartbeats 4000000 in
theorem c_X11_check {l : Launch} {n0 : Nat} {D : va_G} {cA : Nat → ClassId} {M : gM} (a : Int) (r_a : -2147483648 ≤ a ∧ a ≤ 2147483647) {sz : Nat} (hsz : 206 ≤ sz) (f_0_0 : M 0 0 = 2) (f_1_15 : M 1 15 = 0) : Met l yX11_check (gWsOf yX11_check cX11_check 3 (Option.some Jvm.ClassFile.FieldType.int)) { frames := 2, cells := 0, slots := 0, locals := 44 } (gPc n0 D cA [gA n0 0, gJ a] M sz) (gQi n0 D cA sz (fun z M1 => (z = -1) ∧ ∀ a : Int, M1 a = M a)) 0 0 (fun q => n0 ≤ q) := by
  refine gMet_of [gA n0 0, gJ a] (by decide) (Nat.le_of_ble_eq_true rfl) ?_
  intro p e s m args below meth cd X hr hm
  have X : gCx p s m args meth cd n0 D cA "ParishUnion" cX11_check 3 := X
  show G p l e ({ frames := 2, cells := 0, slots := 0, locals := 44 } : Room) s m args below meth cd n0 D cA 3 (MQ below (gQi n0 D cA sz (fun z M1 => (z = -1) ∧ ∀ a : Int, M1 a = M a)) args s 0 0 (fun q => n0 ≤ q)) 0 0 M sz 0 [(0, gA n0 0), (1, gJ a)] []
  refine g_aload_n (n := 1) X 0 dX11_check_0 rfl rfl rfl ?_
  refine g_iload_n (n := 2) X 1 dX11_check_1 rfl rfl rfl ?_
  refine g_callVi (n := 5) (As := [gJ a]) (rest := []) (cs1 := 0) (ss1 := 0) X (c_X11_isGone a (by omega) (by omega) f_0_0 f_1_15) okX11_isGone kw_5_11 ⟨kw_5_13, kw_0_28⟩ ⟨rfl, rfl⟩ ⟨Nat.le_of_ble_eq_true rfl, Nat.le_of_ble_eq_true rfl⟩ rfl (by omega) (by omega) lay_0 rfl rfl (Nat.le_of_ble_eq_true rfl) ⟨Nat.le_of_ble_eq_true rfl, Nat.le_of_ble_eq_true rfl⟩ rfl rfl dX11_check_2 rfl (fun z1 M2 P3 => ?_)
  obtain ⟨rfl, rfl⟩ := P3
  refine g_if_ne (n := 8) (tgt := 10) X dX11_check_5 (by decide) (by omega) rfl (fun c4 => by exfalso; omega) (fun c4 => ?_)
  refine g_iconst (n := 9) X dX11_check_8 rfl ?_
  exact g_ireturn X hr dX11_check_9 (by exact ⟨by omega, fun a  => rfl⟩)
theorem dX11_undo_0 : decode cX11_undo 0 = .ok (.aload_n 0, 1) := by decide +kernel
theorem dX11_undo_1 : decode cX11_undo 1 = .ok (.getfield 416, 3) := by decide +kernel
theorem kw_3_0 : (Jvm.Cond.fieldLink "ParishUnion" (416 : Nat) "ParishUnion" "kept" "LParishUnion$Union;") ∈ gT := gT_of (tb_3 _ (List.mem_of_getElem? (i := 0) rfl)) rfl
theorem dX11_undo_4 : decode cX11_undo 4 = .ok (.ifnonnull 6, 3) := by decide +kernel
theorem dX11_undo_7 : decode cX11_undo 7 = .ok (.bipush (-3), 2) := by decide +kernel
theorem dX11_undo_9 : decode cX11_undo 9 = .ok (.ireturn, 1) := by decide +kernel
set_option maxRecDepth 100000 in
set_option maxHeartbeats 4000000 in
theorem c_X11_undo {l : Launch} {n0 : Nat} {D : va_G} {cA : Nat → ClassId} {M : gM}  {sz : Nat} (hsz : 206 ≤ sz) (f_0_9 : M 0 9 = 0) : Met l yX11_undo (gWsOf yX11_undo cX11_undo 1 (Option.some Jvm.ClassFile.FieldType.int)) { frames := 7, cells := 0, slots := 0, locals := 187 } (gPc n0 D cA [gA n0 0] M sz) (gQi n0 D cA sz (fun z M1 => (z = -3) ∧ ∀ a : Int, M1 a = M a)) 0 0 (fun q => n0 ≤ q) := by
  refine gMet_of [gA n0 0] (by decide) (Nat.le_of_ble_eq_true rfl) ?_
  intro p e s m args below meth cd X hr hm
  have X : gCx p s m args meth cd n0 D cA "ParishUnion" cX11_undo 1 := X
  show G p l e ({ frames := 7, cells := 0, slots := 0, locals := 187 } : Room) s m args below meth cd n0 D cA 1 (MQ below (gQi n0 D cA sz (fun z M1 => (z = -3) ∧ ∀ a : Int, M1 a = M a)) args s 0 0 (fun q => n0 ≤ q)) 0 0 M sz 0 [(0, gA n0 0)] []
  refine g_aload_n (n := 1) X 0 dX11_undo_0 rfl rfl rfl ?_
  refine gn_11_9 (n := 4) X (by omega) (by omega) lay_0 kw_3_0 dX11_undo_1 rfl f_0_9 ?_
  refine g_ifnonnullN (n := 7) X dX11_undo_4 rfl ?_
  refine g_bipush (n := 9) X dX11_undo_7 (by decide +kernel) rfl ?_
  exact g_ireturn X hr dX11_undo_9 (by exact ⟨by omega, fun a  => rfl⟩)
