theorem dX11_within_0 : decode cX11_within 0 = .ok (.iload_n 0, 1) := dc_26 (by decide +kernel)
theorem dX11_within_1 : decode cX11_within 1 = .ok (.iload_n 1, 1) := dc_27 (by decide +kernel)
theorem dX11_within_2 : decode cX11_within 2 = .ok (.if_icmp .lt 12, 3) := dc_161 0 12 12 (by decide +kernel)
theorem dX11_within_14 : decode cX11_within 14 = .ok (.iconst 0, 1) := dc_3 (by decide +kernel)
theorem dX11_within_15 : decode cX11_within 15 = .ok (.ireturn, 1) := dc_172 (by decide +kernel)
theorem dX11_within_5 : decode cX11_within 5 = .ok (.iload_n 0, 1) := dc_26 (by decide +kernel)
theorem dX11_within_6 : decode cX11_within 6 = .ok (.iload_n 2, 1) := dc_28 (by decide +kernel)
theorem dX11_within_7 : decode cX11_within 7 = .ok (.if_icmp .gt 7, 3) := dc_163 0 7 7 (by decide +kernel)
theorem dX11_within_10 : decode cX11_within 10 = .ok (.iconst 1, 1) := dc_4 (by decide +kernel)
theorem dX11_within_11 : decode cX11_within 11 = .ok (.goto 4, 3) := dc_167 0 4 4 (by decide +kernel)
abbrev R_X11_within : Room := { frames := 0, cells := 0, slots := 0, locals := 0 }
set_option maxRecDepth 100000 in
set_option maxHeartbeats 4000000 in
theorem s_X11_within {l : Launch} {n0 : Nat} {D : va_G} {cA : Nat → ClassId} {M : gM} (a : Int) (r_a : -2147483648 ≤ a ∧ a ≤ 2147483647) (b : Int) (r_b : -2147483648 ≤ b ∧ b ≤ 2147483647) (c : Int) (r_c : -2147483648 ≤ c ∧ c ≤ 2147483647) {sz : Nat} (hsz : 206 ≤ sz) (I : gI sz M) (C : gC sz M)   : Met l yX11_within (gWsOf yX11_within cX11_within 3 (Option.some Jvm.ClassFile.FieldType.boolean)) R_X11_within (gPc n0 D cA [gJ a, gJ b, gJ c] M sz) (gQi n0 D cA sz (fun z M1 => M = M1 ∧ (0 ≤ z ∧ z ≤ 1) ∧ (((b ≤ a ∧ a ≤ c) ∧ z = 1 ∨ ¬(b ≤ a ∧ a ≤ c) ∧ z = 0)))) 0 0 (fun q => n0 ≤ q) := by
  refine gMetZ [gJ a, gJ b, gJ c] (by decide) (Nat.le_of_ble_eq_true rfl) ⟨rfl, rfl⟩ ?_
  intro p e s m args below meth cd Q X hq
  have X : gCx p s m args meth cd n0 D cA "ParishUnion" cX11_within 3 := X
  show G p l e R_X11_within s m args below meth cd n0 D cA 3 Q 0 0 M sz 0 [(0, gJ a), (1, gJ b), (2, gJ c)] []
  refine g_iload_n (n := 1) X 0 dX11_within_0 rfl rfl rfl ?_
  refine g_iload_n (n := 2) X 1 dX11_within_1 rfl rfl rfl ?_
  refine g_icmp_lt (n := 5) (tgt := 14) X dX11_within_2 (by decide) (by omega) (by omega) rfl (fun c1 => ?_) (fun c1 => ?_)
  · refine g_iconst (n := 15) X dX11_within_14 rfl ?_
    exact hq _ _ _ _ dX11_within_15 (by omega) ⟨rfl, by omega, by omega⟩
  · refine g_iload_n (n := 6) X 0 dX11_within_5 rfl rfl rfl ?_
    refine g_iload_n (n := 7) X 2 dX11_within_6 rfl rfl rfl ?_
    refine g_icmp_gt (n := 10) (tgt := 14) X dX11_within_7 (by decide) (by omega) (by omega) rfl (fun c2 => ?_) (fun c2 => ?_)
    · refine g_iconst (n := 15) X dX11_within_14 rfl ?_
      exact hq _ _ _ _ dX11_within_15 (by omega) ⟨rfl, by omega, by omega⟩
    · refine g_iconst (n := 11) X dX11_within_10 rfl ?_
      refine g_goto (tgt := 15) X dX11_within_11 (by decide) ?_
      exact hq _ _ _ _ dX11_within_15 (by omega) ⟨rfl, by omega, by omega⟩
theorem dX12_in_0 : decode cX12_in 0 = .ok (.iload_n 0, 1) := dc_26 (by decide +kernel)
theorem dX12_in_1 : decode cX12_in 1 = .ok (.iload_n 1, 1) := dc_27 (by decide +kernel)
theorem dX12_in_2 : decode cX12_in 2 = .ok (.if_icmp .lt 12, 3) := dc_161 0 12 12 (by decide +kernel)
theorem dX12_in_14 : decode cX12_in 14 = .ok (.iconst 0, 1) := dc_3 (by decide +kernel)
theorem dX12_in_15 : decode cX12_in 15 = .ok (.ireturn, 1) := dc_172 (by decide +kernel)
theorem dX12_in_5 : decode cX12_in 5 = .ok (.iload_n 0, 1) := dc_26 (by decide +kernel)
theorem dX12_in_6 : decode cX12_in 6 = .ok (.iload_n 2, 1) := dc_28 (by decide +kernel)
theorem dX12_in_7 : decode cX12_in 7 = .ok (.if_icmp .gt 7, 3) := dc_163 0 7 7 (by decide +kernel)
theorem dX12_in_10 : decode cX12_in 10 = .ok (.iconst 1, 1) := dc_4 (by decide +kernel)
theorem dX12_in_11 : decode cX12_in 11 = .ok (.goto 4, 3) := dc_167 0 4 4 (by decide +kernel)
abbrev R_X12_in : Room := { frames := 0, cells := 0, slots := 0, locals := 0 }
set_option maxRecDepth 100000 in
set_option maxHeartbeats 4000000 in
theorem s_X12_in {l : Launch} {n0 : Nat} {D : va_G} {cA : Nat → ClassId} {M : gM} (a : Int) (r_a : -2147483648 ≤ a ∧ a ≤ 2147483647) (b : Int) (r_b : -2147483648 ≤ b ∧ b ≤ 2147483647) (c : Int) (r_c : -2147483648 ≤ c ∧ c ≤ 2147483647) {sz : Nat} (hsz : 206 ≤ sz) (I : gI sz M) (C : gC sz M)   : Met l yX12_in (gWsOf yX12_in cX12_in 3 (Option.some Jvm.ClassFile.FieldType.boolean)) R_X12_in (gPc n0 D cA [gJ a, gJ b, gJ c] M sz) (gQi n0 D cA sz (fun z M1 => M = M1 ∧ (0 ≤ z ∧ z ≤ 1) ∧ (((b ≤ a ∧ a ≤ c) ∧ z = 1 ∨ ¬(b ≤ a ∧ a ≤ c) ∧ z = 0)))) 0 0 (fun q => n0 ≤ q) := by
  refine gMetZ [gJ a, gJ b, gJ c] (by decide) (Nat.le_of_ble_eq_true rfl) ⟨rfl, rfl⟩ ?_
  intro p e s m args below meth cd Q X hq
  have X : gCx p s m args meth cd n0 D cA "ParishUnionModel" cX12_in 3 := X
  show G p l e R_X12_in s m args below meth cd n0 D cA 3 Q 0 0 M sz 0 [(0, gJ a), (1, gJ b), (2, gJ c)] []
  refine g_iload_n (n := 1) X 0 dX12_in_0 rfl rfl rfl ?_
  refine g_iload_n (n := 2) X 1 dX12_in_1 rfl rfl rfl ?_
  refine g_icmp_lt (n := 5) (tgt := 14) X dX12_in_2 (by decide) (by omega) (by omega) rfl (fun c1 => ?_) (fun c1 => ?_)
  · refine g_iconst (n := 15) X dX12_in_14 rfl ?_
    exact hq _ _ _ _ dX12_in_15 (by omega) ⟨rfl, by omega, by omega⟩
  · refine g_iload_n (n := 6) X 0 dX12_in_5 rfl rfl rfl ?_
    refine g_iload_n (n := 7) X 2 dX12_in_6 rfl rfl rfl ?_
    refine g_icmp_gt (n := 10) (tgt := 14) X dX12_in_7 (by decide) (by omega) (by omega) rfl (fun c2 => ?_) (fun c2 => ?_)
    · refine g_iconst (n := 15) X dX12_in_14 rfl ?_
      exact hq _ _ _ _ dX12_in_15 (by omega) ⟨rfl, by omega, by omega⟩
    · refine g_iconst (n := 11) X dX12_in_10 rfl ?_
      refine g_goto (tgt := 15) X dX12_in_11 (by decide) ?_
      exact hq _ _ _ _ dX12_in_15 (by omega) ⟨rfl, by omega, by omega⟩
theorem dX11_isParish_0 : decode cX11_isParish 0 = .ok (.iload_n 0, 1) := dc_26 (by decide +kernel)
theorem dX11_isParish_1 : decode cX11_isParish 1 = .ok (.iconst 0, 1) := dc_3 (by decide +kernel)
theorem dX11_isParish_2 : decode cX11_isParish 2 = .ok (.iconst 5, 1) := dc_8 (by decide +kernel)
theorem dX11_isParish_3 : decode cX11_isParish 3 = .ok (.invokestatic 62, 3) := dc_184 0 62 (by decide +kernel)
theorem kw_3_29 : (Jvm.Cond.methodLink "ParishUnion" (62 : Nat) ({ cls := "ParishUnion", name := "within", desc := "(III)Z" } : Jvm.MethodName)) ∈ gT := gT_of (tb_3 _ (List.mem_of_getElem? (i := 29) rfl)) rfl
theorem kw_3_31 : (Jvm.Cond.code ({ cls := "ParishUnion", name := "within", desc := "(III)Z" } : Jvm.MethodName) prog_1_method_48_code (3 : Nat) (Option.some Jvm.ClassFile.FieldType.boolean)) ∈ gT := gT_of (tb_3 _ (List.mem_of_getElem? (i := 31) rfl)) rfl
theorem kw_1_1 : (Jvm.Cond.initialized "ParishUnion") ∈ gT := gT_of (tb_1 _ (List.mem_of_getElem? (i := 1) rfl)) rfl
theorem okX11_within : gQok yX11_within cX11_within 3 (Option.some Jvm.ClassFile.FieldType.boolean) 3 := ⟨kw_3_31, kw_1_1, by decide +kernel, by decide +kernel, by decide +kernel⟩
theorem kw_3_30 : (Jvm.Cond.static ({ cls := "ParishUnion", name := "within", desc := "(III)Z" } : Jvm.MethodName)) ∈ gT := gT_of (tb_3 _ (List.mem_of_getElem? (i := 30) rfl)) rfl
theorem dX11_isParish_6 : decode cX11_isParish 6 = .ok (.ireturn, 1) := dc_172 (by decide +kernel)
abbrev R_X11_isParish : Room := { frames := 1, cells := 0, slots := 0, locals := 22 }
set_option maxRecDepth 100000 in
set_option maxHeartbeats 4000000 in
theorem s_X11_isParish {l : Launch} {n0 : Nat} {D : va_G} {cA : Nat → ClassId} {M : gM} (a : Int) (r_a : -2147483648 ≤ a ∧ a ≤ 2147483647) {sz : Nat} (hsz : 206 ≤ sz) (I : gI sz M) (C : gC sz M)   : Met l yX11_isParish (gWsOf yX11_isParish cX11_isParish 1 (Option.some Jvm.ClassFile.FieldType.boolean)) R_X11_isParish (gPc n0 D cA [gJ a] M sz) (gQi n0 D cA sz (fun z M1 => M = M1 ∧ (0 ≤ z ∧ z ≤ 1) ∧ (((0 ≤ a ∧ a ≤ 5) ∧ z = 1 ∨ ¬(0 ≤ a ∧ a ≤ 5) ∧ z = 0)))) 0 0 (fun q => n0 ≤ q) := by
  refine gMetZ [gJ a] (by decide) (Nat.le_of_ble_eq_true rfl) ⟨rfl, rfl⟩ ?_
  intro p e s m args below meth cd Q X hq
  have X : gCx p s m args meth cd n0 D cA "ParishUnion" cX11_isParish 1 := X
  show G p l e R_X11_isParish s m args below meth cd n0 D cA 1 Q 0 0 M sz 0 [(0, gJ a)] []
  refine g_iload_n (n := 1) X 0 dX11_isParish_0 rfl rfl rfl ?_
  refine g_iconst (n := 2) X dX11_isParish_1 rfl ?_
  refine g_iconst (n := 3) X dX11_isParish_2 rfl ?_
  refine g_callSi (n := 6) (As := [gJ a, gJ 0, gJ 5]) (rest := []) (cs1 := 0) (ss1 := 0) X (s_X11_within a (by omega) 0 (by omega) 5 (by omega) hsz I C ) okX11_within kw_3_29 kw_3_30 ⟨rfl, rfl⟩ ⟨Nat.le_of_ble_eq_true rfl, Nat.le_of_ble_eq_true rfl⟩ rfl rfl (Nat.le_of_ble_eq_true rfl) ⟨Nat.le_of_ble_eq_true rfl, Nat.le_of_ble_eq_true rfl⟩ rfl rfl dX11_isParish_3 rfl (fun v1 M2 P3 => ?_)
  obtain ⟨rfl, rv1, xv1⟩ := P3
  exact hq _ _ _ _ dX11_isParish_6 (by omega) ⟨rfl, by omega, by omega⟩
theorem dX11_isBench_0 : decode cX11_isBench 0 = .ok (.iload_n 0, 1) := dc_26 (by decide +kernel)
theorem dX11_isBench_1 : decode cX11_isBench 1 = .ok (.iconst 0, 1) := dc_3 (by decide +kernel)
theorem dX11_isBench_2 : decode cX11_isBench 2 = .ok (.iconst 1, 1) := dc_4 (by decide +kernel)
theorem dX11_isBench_3 : decode cX11_isBench 3 = .ok (.invokestatic 62, 3) := dc_184 0 62 (by decide +kernel)
theorem dX11_isBench_6 : decode cX11_isBench 6 = .ok (.ireturn, 1) := dc_172 (by decide +kernel)
abbrev R_X11_isBench : Room := { frames := 1, cells := 0, slots := 0, locals := 22 }
set_option maxRecDepth 100000 in
set_option maxHeartbeats 4000000 in
theorem s_X11_isBench {l : Launch} {n0 : Nat} {D : va_G} {cA : Nat → ClassId} {M : gM} (a : Int) (r_a : -2147483648 ≤ a ∧ a ≤ 2147483647) {sz : Nat} (hsz : 206 ≤ sz) (I : gI sz M) (C : gC sz M)   : Met l yX11_isBench (gWsOf yX11_isBench cX11_isBench 1 (Option.some Jvm.ClassFile.FieldType.boolean)) R_X11_isBench (gPc n0 D cA [gJ a] M sz) (gQi n0 D cA sz (fun z M1 => M = M1 ∧ (0 ≤ z ∧ z ≤ 1) ∧ (((0 ≤ a ∧ a ≤ 1) ∧ z = 1 ∨ ¬(0 ≤ a ∧ a ≤ 1) ∧ z = 0)))) 0 0 (fun q => n0 ≤ q) := by
  refine gMetZ [gJ a] (by decide) (Nat.le_of_ble_eq_true rfl) ⟨rfl, rfl⟩ ?_
  intro p e s m args below meth cd Q X hq
  have X : gCx p s m args meth cd n0 D cA "ParishUnion" cX11_isBench 1 := X
  show G p l e R_X11_isBench s m args below meth cd n0 D cA 1 Q 0 0 M sz 0 [(0, gJ a)] []
  refine g_iload_n (n := 1) X 0 dX11_isBench_0 rfl rfl rfl ?_
  refine g_iconst (n := 2) X dX11_isBench_1 rfl ?_
  refine g_iconst (n := 3) X dX11_isBench_2 rfl ?_
  refine g_callSi (n := 6) (As := [gJ a, gJ 0, gJ 1]) (rest := []) (cs1 := 0) (ss1 := 0) X (s_X11_within a (by omega) 0 (by omega) 1 (by omega) hsz I C ) okX11_within kw_3_29 kw_3_30 ⟨rfl, rfl⟩ ⟨Nat.le_of_ble_eq_true rfl, Nat.le_of_ble_eq_true rfl⟩ rfl rfl (Nat.le_of_ble_eq_true rfl) ⟨Nat.le_of_ble_eq_true rfl, Nat.le_of_ble_eq_true rfl⟩ rfl rfl dX11_isBench_3 rfl (fun v1 M2 P3 => ?_)
  obtain ⟨rfl, rv1, xv1⟩ := P3
  exact hq _ _ _ _ dX11_isBench_6 (by omega) ⟨rfl, by omega, by omega⟩
theorem dX12_isParish_0 : decode cX12_isParish 0 = .ok (.iload_n 0, 1) := dc_26 (by decide +kernel)
theorem dX12_isParish_1 : decode cX12_isParish 1 = .ok (.iconst 0, 1) := dc_3 (by decide +kernel)
theorem dX12_isParish_2 : decode cX12_isParish 2 = .ok (.iconst 5, 1) := dc_8 (by decide +kernel)
theorem dX12_isParish_3 : decode cX12_isParish 3 = .ok (.invokestatic 64, 3) := dc_184 0 64 (by decide +kernel)
theorem kw_6_106 : (Jvm.Cond.methodLink "ParishUnionModel" (64 : Nat) ({ cls := "ParishUnionModel", name := "in", desc := "(III)Z" } : Jvm.MethodName)) ∈ gT := gT_of (tb_6 _ (List.mem_of_getElem? (i := 106) rfl)) rfl
theorem kw_6_108 : (Jvm.Cond.code ({ cls := "ParishUnionModel", name := "in", desc := "(III)Z" } : Jvm.MethodName) prog_14_method_3_code (3 : Nat) (Option.some Jvm.ClassFile.FieldType.boolean)) ∈ gT := gT_of (tb_6 _ (List.mem_of_getElem? (i := 108) rfl)) rfl
theorem kw_1_13 : (Jvm.Cond.initialized "ParishUnionModel") ∈ gT := gT_of (tb_1 _ (List.mem_of_getElem? (i := 13) rfl)) rfl
theorem okX12_in : gQok yX12_in cX12_in 3 (Option.some Jvm.ClassFile.FieldType.boolean) 3 := ⟨kw_6_108, kw_1_13, by decide +kernel, by decide +kernel, by decide +kernel⟩
theorem kw_6_107 : (Jvm.Cond.static ({ cls := "ParishUnionModel", name := "in", desc := "(III)Z" } : Jvm.MethodName)) ∈ gT := gT_of (tb_6 _ (List.mem_of_getElem? (i := 107) rfl)) rfl
theorem dX12_isParish_6 : decode cX12_isParish 6 = .ok (.ireturn, 1) := dc_172 (by decide +kernel)
abbrev R_X12_isParish : Room := { frames := 1, cells := 0, slots := 0, locals := 22 }
set_option maxRecDepth 100000 in
set_option maxHeartbeats 4000000 in
theorem s_X12_isParish {l : Launch} {n0 : Nat} {D : va_G} {cA : Nat → ClassId} {M : gM} (a : Int) (r_a : -2147483648 ≤ a ∧ a ≤ 2147483647) {sz : Nat} (hsz : 206 ≤ sz) (I : gI sz M) (C : gC sz M)   : Met l yX12_isParish (gWsOf yX12_isParish cX12_isParish 1 (Option.some Jvm.ClassFile.FieldType.boolean)) R_X12_isParish (gPc n0 D cA [gJ a] M sz) (gQi n0 D cA sz (fun z M1 => M = M1 ∧ (0 ≤ z ∧ z ≤ 1) ∧ (((0 ≤ a ∧ a ≤ 5) ∧ z = 1 ∨ ¬(0 ≤ a ∧ a ≤ 5) ∧ z = 0)))) 0 0 (fun q => n0 ≤ q) := by
  refine gMetZ [gJ a] (by decide) (Nat.le_of_ble_eq_true rfl) ⟨rfl, rfl⟩ ?_
  intro p e s m args below meth cd Q X hq
  have X : gCx p s m args meth cd n0 D cA "ParishUnionModel" cX12_isParish 1 := X
  show G p l e R_X12_isParish s m args below meth cd n0 D cA 1 Q 0 0 M sz 0 [(0, gJ a)] []
  refine g_iload_n (n := 1) X 0 dX12_isParish_0 rfl rfl rfl ?_
  refine g_iconst (n := 2) X dX12_isParish_1 rfl ?_
  refine g_iconst (n := 3) X dX12_isParish_2 rfl ?_
  refine g_callSi (n := 6) (As := [gJ a, gJ 0, gJ 5]) (rest := []) (cs1 := 0) (ss1 := 0) X (s_X12_in a (by omega) 0 (by omega) 5 (by omega) hsz I C ) okX12_in kw_6_106 kw_6_107 ⟨rfl, rfl⟩ ⟨Nat.le_of_ble_eq_true rfl, Nat.le_of_ble_eq_true rfl⟩ rfl rfl (Nat.le_of_ble_eq_true rfl) ⟨Nat.le_of_ble_eq_true rfl, Nat.le_of_ble_eq_true rfl⟩ rfl rfl dX12_isParish_3 rfl (fun v1 M2 P3 => ?_)
  obtain ⟨rfl, rv1, xv1⟩ := P3
  exact hq _ _ _ _ dX12_isParish_6 (by omega) ⟨rfl, by omega, by omega⟩
theorem dX12_isWeek_0 : decode cX12_isWeek 0 = .ok (.iload_n 0, 1) := dc_26 (by decide +kernel)
theorem dX12_isWeek_1 : decode cX12_isWeek 1 = .ok (.iconst 0, 1) := dc_3 (by decide +kernel)
theorem dX12_isWeek_2 : decode cX12_isWeek 2 = .ok (.sipush 300, 3) := dc_17 1 44 300 (by decide +kernel)
theorem dX12_isWeek_5 : decode cX12_isWeek 5 = .ok (.invokestatic 64, 3) := dc_184 0 64 (by decide +kernel)
theorem dX12_isWeek_8 : decode cX12_isWeek 8 = .ok (.ireturn, 1) := dc_172 (by decide +kernel)
abbrev R_X12_isWeek : Room := { frames := 1, cells := 0, slots := 0, locals := 22 }
set_option maxRecDepth 100000 in
set_option maxHeartbeats 4000000 in
theorem s_X12_isWeek {l : Launch} {n0 : Nat} {D : va_G} {cA : Nat → ClassId} {M : gM} (a : Int) (r_a : -2147483648 ≤ a ∧ a ≤ 2147483647) {sz : Nat} (hsz : 206 ≤ sz) (I : gI sz M) (C : gC sz M)   : Met l yX12_isWeek (gWsOf yX12_isWeek cX12_isWeek 1 (Option.some Jvm.ClassFile.FieldType.boolean)) R_X12_isWeek (gPc n0 D cA [gJ a] M sz) (gQi n0 D cA sz (fun z M1 => M = M1 ∧ (0 ≤ z ∧ z ≤ 1) ∧ (((0 ≤ a ∧ a ≤ 300) ∧ z = 1 ∨ ¬(0 ≤ a ∧ a ≤ 300) ∧ z = 0)))) 0 0 (fun q => n0 ≤ q) := by
  refine gMetZ [gJ a] (by decide) (Nat.le_of_ble_eq_true rfl) ⟨rfl, rfl⟩ ?_
  intro p e s m args below meth cd Q X hq
  have X : gCx p s m args meth cd n0 D cA "ParishUnionModel" cX12_isWeek 1 := X
  show G p l e R_X12_isWeek s m args below meth cd n0 D cA 1 Q 0 0 M sz 0 [(0, gJ a)] []
  refine g_iload_n (n := 1) X 0 dX12_isWeek_0 rfl rfl rfl ?_
  refine g_iconst (n := 2) X dX12_isWeek_1 rfl ?_
  refine g_sipush (n := 5) X dX12_isWeek_2 (by decide +kernel) rfl ?_
  refine g_callSi (n := 8) (As := [gJ a, gJ 0, gJ 300]) (rest := []) (cs1 := 0) (ss1 := 0) X (s_X12_in a (by omega) 0 (by omega) 300 (by omega) hsz I C ) okX12_in kw_6_106 kw_6_107 ⟨rfl, rfl⟩ ⟨Nat.le_of_ble_eq_true rfl, Nat.le_of_ble_eq_true rfl⟩ rfl rfl (Nat.le_of_ble_eq_true rfl) ⟨Nat.le_of_ble_eq_true rfl, Nat.le_of_ble_eq_true rfl⟩ rfl rfl dX12_isWeek_5 rfl (fun v1 M2 P3 => ?_)
  obtain ⟨rfl, rv1, xv1⟩ := P3
  exact hq _ _ _ _ dX12_isWeek_8 (by omega) ⟨rfl, by omega, by omega⟩
theorem dX11_isPerson_0 : decode cX11_isPerson 0 = .ok (.iload_n 1, 1) := dc_27 (by decide +kernel)
theorem dX11_isPerson_1 : decode cX11_isPerson 1 = .ok (.iconst 0, 1) := dc_3 (by decide +kernel)
theorem dX11_isPerson_2 : decode cX11_isPerson 2 = .ok (.aload_n 0, 1) := dc_42 (by decide +kernel)
theorem dX11_isPerson_3 : decode cX11_isPerson 3 = .ok (.getfield 10, 3) := dc_180 0 10 (by decide +kernel)
theorem kw_2_231 : (Jvm.Cond.fieldLink "ParishUnion" (10 : Nat) "ParishUnion" "union" "LParishUnion$Union;") ∈ gT := gT_of (tb_2 _ (List.mem_of_getElem? (i := 231) rfl)) rfl
theorem rf_0_0 {sz : Nat} {M : gM} (I : gI sz M) (h : (0 : Int) < (sz : Int)) : M 0 0 = 1 + 1 := gI.rf I (by decide) h (by decide +kernel)
theorem dX11_isPerson_6 : decode cX11_isPerson 6 = .ok (.getfield 98, 3) := dc_180 0 98 (by decide +kernel)
theorem kw_2_127 : (Jvm.Cond.fieldLink "ParishUnion" (98 : Nat) "ParishUnion$Union" "personCount" "I") ∈ gT := gT_of (tb_2 _ (List.mem_of_getElem? (i := 127) rfl)) rfl
theorem rc_1_10 : gRg 1 10 = (0, 16) ∧ gCr 1 10 = false ∧ gG 1 10 = 20 := by decide +kernel
theorem dX11_isPerson_9 : decode cX11_isPerson 9 = .ok (.iconst 1, 1) := dc_4 (by decide +kernel)
theorem dX11_isPerson_10 : decode cX11_isPerson 10 = .ok (.isub, 1) := dc_100 (by decide +kernel)
theorem dX11_isPerson_11 : decode cX11_isPerson 11 = .ok (.invokestatic 62, 3) := dc_184 0 62 (by decide +kernel)
theorem dX11_isPerson_14 : decode cX11_isPerson 14 = .ok (.ireturn, 1) := dc_172 (by decide +kernel)
abbrev R_X11_isPerson : Room := { frames := 1, cells := 0, slots := 0, locals := 22 }
set_option maxRecDepth 100000 in
set_option maxHeartbeats 4000000 in
theorem s_X11_isPerson {l : Launch} {n0 : Nat} {D : va_G} {cA : Nat → ClassId} {M : gM} (a : Int) (r_a : -2147483648 ≤ a ∧ a ≤ 2147483647) {sz : Nat} (hsz : 206 ≤ sz) (I : gI sz M) (C : gC sz M)   : Met l yX11_isPerson (gWsOf yX11_isPerson cX11_isPerson 2 (Option.some Jvm.ClassFile.FieldType.boolean)) R_X11_isPerson (gPc n0 D cA [gA n0 0, gJ a] M sz) (gQi n0 D cA sz (fun z M1 => M = M1 ∧ (0 ≤ z ∧ z ≤ 1) ∧ (((0 ≤ a ∧ a ≤ M 1 10 - 1 ∧ a ≤ 15) ∧ z = 1 ∨ ¬(0 ≤ a ∧ a ≤ M 1 10 - 1) ∧ z = 0)))) 0 0 (fun q => n0 ≤ q) := by
  refine gMetZ [gA n0 0, gJ a] (by decide) (Nat.le_of_ble_eq_true rfl) ⟨rfl, rfl⟩ ?_
  intro p e s m args below meth cd Q X hq
  have X : gCx p s m args meth cd n0 D cA "ParishUnion" cX11_isPerson 2 := X
  show G p l e R_X11_isPerson s m args below meth cd n0 D cA 2 Q 0 0 M sz 0 [(0, gA n0 0), (1, gJ a)] []
  refine g_iload_n (n := 1) X 1 dX11_isPerson_0 rfl rfl rfl ?_
  refine g_iconst (n := 2) X dX11_isPerson_1 rfl ?_
  refine g_aload_n (n := 3) X 0 dX11_isPerson_2 rfl rfl rfl ?_
  refine gg_11_0 (n := 6) (z := 1) X (by decide) (gsz hsz (by decide)) lay_0 kw_2_231 dX11_isPerson_3 rfl (rf_0_0 I (gsz hsz (by decide))) (by decide) ?_
  obtain ⟨v1, hv1, rv1⟩ := gRd I (by decide) (gsz hsz (by decide)) rc_1_10.1
  refine gg_9_10 (n := 9) (z := v1) X (by decide) (gsz hsz (by decide)) lay_1 kw_2_127 dX11_isPerson_6 rfl hv1 ?_
  refine g_iconst (n := 10) X dX11_isPerson_9 rfl ?_
  refine g_isub (n := 11) (z := v1 - 1) X dX11_isPerson_10 (by omega) rfl ?_
  refine g_callSi (n := 14) (As := [gJ a, gJ 0, gJ (v1 - 1)]) (rest := []) (cs1 := 0) (ss1 := 0) X (s_X11_within a (by omega) 0 (by omega) (v1 - 1) (by omega) hsz I C ) okX11_within kw_3_29 kw_3_30 ⟨rfl, rfl⟩ ⟨Nat.le_of_ble_eq_true rfl, Nat.le_of_ble_eq_true rfl⟩ rfl rfl (Nat.le_of_ble_eq_true rfl) ⟨Nat.le_of_ble_eq_true rfl, Nat.le_of_ble_eq_true rfl⟩ rfl rfl dX11_isPerson_11 rfl (fun v2 M3 P4 => ?_)
  obtain ⟨rfl, rv2, xv2⟩ := P4
  exact hq _ _ _ _ dX11_isPerson_14 (by omega) ⟨rfl, by omega, by omega⟩
theorem dX11_isRight_0 : decode cX11_isRight 0 = .ok (.iload_n 1, 1) := dc_27 (by decide +kernel)
theorem dX11_isRight_1 : decode cX11_isRight 1 = .ok (.iconst 0, 1) := dc_3 (by decide +kernel)
theorem dX11_isRight_2 : decode cX11_isRight 2 = .ok (.aload_n 0, 1) := dc_42 (by decide +kernel)
theorem dX11_isRight_3 : decode cX11_isRight 3 = .ok (.getfield 10, 3) := dc_180 0 10 (by decide +kernel)
theorem dX11_isRight_6 : decode cX11_isRight 6 = .ok (.getfield 423, 3) := dc_180 1 167 (by decide +kernel)
theorem kw_2_130 : (Jvm.Cond.fieldLink "ParishUnion" (423 : Nat) "ParishUnion$Union" "rightCount" "I") ∈ gT := gT_of (tb_2 _ (List.mem_of_getElem? (i := 130) rfl)) rfl
theorem rc_1_11 : gRg 1 11 = (0, 40) ∧ gCr 1 11 = false ∧ gG 1 11 = 21 := by decide +kernel
theorem dX11_isRight_9 : decode cX11_isRight 9 = .ok (.iconst 1, 1) := dc_4 (by decide +kernel)
theorem dX11_isRight_10 : decode cX11_isRight 10 = .ok (.isub, 1) := dc_100 (by decide +kernel)
theorem dX11_isRight_11 : decode cX11_isRight 11 = .ok (.invokestatic 62, 3) := dc_184 0 62 (by decide +kernel)
theorem dX11_isRight_14 : decode cX11_isRight 14 = .ok (.ireturn, 1) := dc_172 (by decide +kernel)
abbrev R_X11_isRight : Room := { frames := 1, cells := 0, slots := 0, locals := 22 }
set_option maxRecDepth 100000 in
set_option maxHeartbeats 4000000 in
theorem s_X11_isRight {l : Launch} {n0 : Nat} {D : va_G} {cA : Nat → ClassId} {M : gM} (a : Int) (r_a : -2147483648 ≤ a ∧ a ≤ 2147483647) {sz : Nat} (hsz : 206 ≤ sz) (I : gI sz M) (C : gC sz M)   : Met l yX11_isRight (gWsOf yX11_isRight cX11_isRight 2 (Option.some Jvm.ClassFile.FieldType.boolean)) R_X11_isRight (gPc n0 D cA [gA n0 0, gJ a] M sz) (gQi n0 D cA sz (fun z M1 => M = M1 ∧ (0 ≤ z ∧ z ≤ 1) ∧ (((0 ≤ a ∧ a ≤ M 1 11 - 1 ∧ a ≤ 39) ∧ z = 1 ∨ ¬(0 ≤ a ∧ a ≤ M 1 11 - 1) ∧ z = 0)))) 0 0 (fun q => n0 ≤ q) := by
  refine gMetZ [gA n0 0, gJ a] (by decide) (Nat.le_of_ble_eq_true rfl) ⟨rfl, rfl⟩ ?_
  intro p e s m args below meth cd Q X hq
  have X : gCx p s m args meth cd n0 D cA "ParishUnion" cX11_isRight 2 := X
  show G p l e R_X11_isRight s m args below meth cd n0 D cA 2 Q 0 0 M sz 0 [(0, gA n0 0), (1, gJ a)] []
  refine g_iload_n (n := 1) X 1 dX11_isRight_0 rfl rfl rfl ?_
  refine g_iconst (n := 2) X dX11_isRight_1 rfl ?_
  refine g_aload_n (n := 3) X 0 dX11_isRight_2 rfl rfl rfl ?_
  refine gg_11_0 (n := 6) (z := 1) X (by decide) (gsz hsz (by decide)) lay_0 kw_2_231 dX11_isRight_3 rfl (rf_0_0 I (gsz hsz (by decide))) (by decide) ?_
  obtain ⟨v1, hv1, rv1⟩ := gRd I (by decide) (gsz hsz (by decide)) rc_1_11.1
  refine gg_9_11 (n := 9) (z := v1) X (by decide) (gsz hsz (by decide)) lay_1 kw_2_130 dX11_isRight_6 rfl hv1 ?_
  refine g_iconst (n := 10) X dX11_isRight_9 rfl ?_
  refine g_isub (n := 11) (z := v1 - 1) X dX11_isRight_10 (by omega) rfl ?_
  refine g_callSi (n := 14) (As := [gJ a, gJ 0, gJ (v1 - 1)]) (rest := []) (cs1 := 0) (ss1 := 0) X (s_X11_within a (by omega) 0 (by omega) (v1 - 1) (by omega) hsz I C ) okX11_within kw_3_29 kw_3_30 ⟨rfl, rfl⟩ ⟨Nat.le_of_ble_eq_true rfl, Nat.le_of_ble_eq_true rfl⟩ rfl rfl (Nat.le_of_ble_eq_true rfl) ⟨Nat.le_of_ble_eq_true rfl, Nat.le_of_ble_eq_true rfl⟩ rfl rfl dX11_isRight_11 rfl (fun v2 M3 P4 => ?_)
  obtain ⟨rfl, rv2, xv2⟩ := P4
  exact hq _ _ _ _ dX11_isRight_14 (by omega) ⟨rfl, by omega, by omega⟩
theorem dX11_isOrder_0 : decode cX11_isOrder 0 = .ok (.iload_n 1, 1) := dc_27 (by decide +kernel)
theorem dX11_isOrder_1 : decode cX11_isOrder 1 = .ok (.iconst 0, 1) := dc_3 (by decide +kernel)
theorem dX11_isOrder_2 : decode cX11_isOrder 2 = .ok (.aload_n 0, 1) := dc_42 (by decide +kernel)
theorem dX11_isOrder_3 : decode cX11_isOrder 3 = .ok (.getfield 10, 3) := dc_180 0 10 (by decide +kernel)
theorem dX11_isOrder_6 : decode cX11_isOrder 6 = .ok (.getfield 247, 3) := dc_180 0 247 (by decide +kernel)
theorem kw_2_117 : (Jvm.Cond.fieldLink "ParishUnion" (247 : Nat) "ParishUnion$Union" "orders" "LParishUnion$Orders;") ∈ gT := gT_of (tb_2 _ (List.mem_of_getElem? (i := 117) rfl)) rfl
theorem rf_1_5 {sz : Nat} {M : gM} (I : gI sz M) (h : (1 : Int) < (sz : Int)) : M 1 5 = 9 + 1 := gI.rf I (by decide) h (by decide +kernel)
theorem dX11_isOrder_9 : decode cX11_isOrder 9 = .ok (.getfield 251, 3) := dc_180 0 251 (by decide +kernel)
theorem kw_1_73 : (Jvm.Cond.fieldLink "ParishUnion" (251 : Nat) "ParishUnion$Orders" "count" "I") ∈ gT := gT_of (tb_1 _ (List.mem_of_getElem? (i := 73) rfl)) rfl
theorem rc_9_5 : gRg 9 5 = (0, 20) ∧ gCr 9 5 = false ∧ gG 9 5 = 10 := by decide +kernel
theorem dX11_isOrder_12 : decode cX11_isOrder 12 = .ok (.iconst 1, 1) := dc_4 (by decide +kernel)
theorem dX11_isOrder_13 : decode cX11_isOrder 13 = .ok (.isub, 1) := dc_100 (by decide +kernel)
theorem dX11_isOrder_14 : decode cX11_isOrder 14 = .ok (.invokestatic 62, 3) := dc_184 0 62 (by decide +kernel)
theorem dX11_isOrder_17 : decode cX11_isOrder 17 = .ok (.ireturn, 1) := dc_172 (by decide +kernel)
abbrev R_X11_isOrder : Room := { frames := 1, cells := 0, slots := 0, locals := 22 }
set_option maxRecDepth 100000 in
set_option maxHeartbeats 4000000 in
theorem s_X11_isOrder {l : Launch} {n0 : Nat} {D : va_G} {cA : Nat → ClassId} {M : gM} (a : Int) (r_a : -2147483648 ≤ a ∧ a ≤ 2147483647) {sz : Nat} (hsz : 206 ≤ sz) (I : gI sz M) (C : gC sz M)   : Met l yX11_isOrder (gWsOf yX11_isOrder cX11_isOrder 2 (Option.some Jvm.ClassFile.FieldType.boolean)) R_X11_isOrder (gPc n0 D cA [gA n0 0, gJ a] M sz) (gQi n0 D cA sz (fun z M1 => M = M1 ∧ (0 ≤ z ∧ z ≤ 1) ∧ (((0 ≤ a ∧ a ≤ M 9 5 - 1 ∧ a ≤ 19) ∧ z = 1 ∨ ¬(0 ≤ a ∧ a ≤ M 9 5 - 1) ∧ z = 0)))) 0 0 (fun q => n0 ≤ q) := by
  refine gMetZ [gA n0 0, gJ a] (by decide) (Nat.le_of_ble_eq_true rfl) ⟨rfl, rfl⟩ ?_
  intro p e s m args below meth cd Q X hq
  have X : gCx p s m args meth cd n0 D cA "ParishUnion" cX11_isOrder 2 := X
  show G p l e R_X11_isOrder s m args below meth cd n0 D cA 2 Q 0 0 M sz 0 [(0, gA n0 0), (1, gJ a)] []
  refine g_iload_n (n := 1) X 1 dX11_isOrder_0 rfl rfl rfl ?_
  refine g_iconst (n := 2) X dX11_isOrder_1 rfl ?_
  refine g_aload_n (n := 3) X 0 dX11_isOrder_2 rfl rfl rfl ?_
  refine gg_11_0 (n := 6) (z := 1) X (by decide) (gsz hsz (by decide)) lay_0 kw_2_231 dX11_isOrder_3 rfl (rf_0_0 I (gsz hsz (by decide))) (by decide) ?_
  refine gg_9_5 (n := 9) (z := 9) X (by decide) (gsz hsz (by decide)) lay_1 kw_2_117 dX11_isOrder_6 rfl (rf_1_5 I (gsz hsz (by decide))) (by decide) ?_
  obtain ⟨v1, hv1, rv1⟩ := gRd I (by decide) (gsz hsz (by decide)) rc_9_5.1
  refine gg_4_5 (n := 12) (z := v1) X (by decide) (gsz hsz (by decide)) lay_9 kw_1_73 dX11_isOrder_9 rfl hv1 ?_
  refine g_iconst (n := 13) X dX11_isOrder_12 rfl ?_
  refine g_isub (n := 14) (z := v1 - 1) X dX11_isOrder_13 (by omega) rfl ?_
  refine g_callSi (n := 17) (As := [gJ a, gJ 0, gJ (v1 - 1)]) (rest := []) (cs1 := 0) (ss1 := 0) X (s_X11_within a (by omega) 0 (by omega) (v1 - 1) (by omega) hsz I C ) okX11_within kw_3_29 kw_3_30 ⟨rfl, rfl⟩ ⟨Nat.le_of_ble_eq_true rfl, Nat.le_of_ble_eq_true rfl⟩ rfl rfl (Nat.le_of_ble_eq_true rfl) ⟨Nat.le_of_ble_eq_true rfl, Nat.le_of_ble_eq_true rfl⟩ rfl rfl dX11_isOrder_14 rfl (fun v2 M3 P4 => ?_)
  obtain ⟨rfl, rv2, xv2⟩ := P4
  exact hq _ _ _ _ dX11_isOrder_17 (by omega) ⟨rfl, by omega, by omega⟩
theorem dX11_isEntryCount_0 : decode cX11_isEntryCount 0 = .ok (.iload_n 1, 1) := dc_27 (by decide +kernel)
theorem dX11_isEntryCount_1 : decode cX11_isEntryCount 1 = .ok (.iconst (-1), 1) := dc_2 (by decide +kernel)
theorem dX11_isEntryCount_2 : decode cX11_isEntryCount 2 = .ok (.aload_n 0, 1) := dc_42 (by decide +kernel)
theorem dX11_isEntryCount_3 : decode cX11_isEntryCount 3 = .ok (.getfield 10, 3) := dc_180 0 10 (by decide +kernel)
theorem dX11_isEntryCount_6 : decode cX11_isEntryCount 6 = .ok (.getfield 152, 3) := dc_180 0 152 (by decide +kernel)
theorem kw_2_133 : (Jvm.Cond.fieldLink "ParishUnion" (152 : Nat) "ParishUnion$Union" "entries" "I") ∈ gT := gT_of (tb_2 _ (List.mem_of_getElem? (i := 133) rfl)) rfl
theorem rc_1_12 : gRg 1 12 = (0, 80) ∧ gCr 1 12 = false ∧ gG 1 12 = 90 := by decide +kernel
theorem dX11_isEntryCount_9 : decode cX11_isEntryCount 9 = .ok (.invokestatic 62, 3) := dc_184 0 62 (by decide +kernel)
theorem dX11_isEntryCount_12 : decode cX11_isEntryCount 12 = .ok (.ireturn, 1) := dc_172 (by decide +kernel)
abbrev R_X11_isEntryCount : Room := { frames := 1, cells := 0, slots := 0, locals := 22 }
set_option maxRecDepth 100000 in
set_option maxHeartbeats 4000000 in
theorem s_X11_isEntryCount {l : Launch} {n0 : Nat} {D : va_G} {cA : Nat → ClassId} {M : gM} (a : Int) (r_a : -2147483648 ≤ a ∧ a ≤ 2147483647) {sz : Nat} (hsz : 206 ≤ sz) (I : gI sz M) (C : gC sz M)   : Met l yX11_isEntryCount (gWsOf yX11_isEntryCount cX11_isEntryCount 2 (Option.some Jvm.ClassFile.FieldType.boolean)) R_X11_isEntryCount (gPc n0 D cA [gA n0 0, gJ a] M sz) (gQi n0 D cA sz (fun z M1 => M = M1 ∧ (0 ≤ z ∧ z ≤ 1) ∧ (((-1 ≤ a ∧ a ≤ M 1 12 ∧ a ≤ 80) ∧ z = 1 ∨ ¬(-1 ≤ a ∧ a ≤ M 1 12) ∧ z = 0)))) 0 0 (fun q => n0 ≤ q) := by
  refine gMetZ [gA n0 0, gJ a] (by decide) (Nat.le_of_ble_eq_true rfl) ⟨rfl, rfl⟩ ?_
  intro p e s m args below meth cd Q X hq
  have X : gCx p s m args meth cd n0 D cA "ParishUnion" cX11_isEntryCount 2 := X
  show G p l e R_X11_isEntryCount s m args below meth cd n0 D cA 2 Q 0 0 M sz 0 [(0, gA n0 0), (1, gJ a)] []
  refine g_iload_n (n := 1) X 1 dX11_isEntryCount_0 rfl rfl rfl ?_
  refine g_iconst (n := 2) X dX11_isEntryCount_1 rfl ?_
  refine g_aload_n (n := 3) X 0 dX11_isEntryCount_2 rfl rfl rfl ?_
  refine gg_11_0 (n := 6) (z := 1) X (by decide) (gsz hsz (by decide)) lay_0 kw_2_231 dX11_isEntryCount_3 rfl (rf_0_0 I (gsz hsz (by decide))) (by decide) ?_
  obtain ⟨v1, hv1, rv1⟩ := gRd I (by decide) (gsz hsz (by decide)) rc_1_12.1
  refine gg_9_12 (n := 9) (z := v1) X (by decide) (gsz hsz (by decide)) lay_1 kw_2_133 dX11_isEntryCount_6 rfl hv1 ?_
  refine g_callSi (n := 12) (As := [gJ a, gJ (-1), gJ v1]) (rest := []) (cs1 := 0) (ss1 := 0) X (s_X11_within a (by omega) (-1) (by omega) v1 (by omega) hsz I C ) okX11_within kw_3_29 kw_3_30 ⟨rfl, rfl⟩ ⟨Nat.le_of_ble_eq_true rfl, Nat.le_of_ble_eq_true rfl⟩ rfl rfl (Nat.le_of_ble_eq_true rfl) ⟨Nat.le_of_ble_eq_true rfl, Nat.le_of_ble_eq_true rfl⟩ rfl rfl dX11_isEntryCount_9 rfl (fun v2 M3 P4 => ?_)
  obtain ⟨rfl, rv2, xv2⟩ := P4
  exact hq _ _ _ _ dX11_isEntryCount_12 (by omega) ⟨rfl, by omega, by omega⟩
theorem dX11_isGone_0 : decode cX11_isGone 0 = .ok (.iload_n 1, 1) := dc_27 (by decide +kernel)
theorem dX11_isGone_1 : decode cX11_isGone 1 = .ok (.iconst 0, 1) := dc_3 (by decide +kernel)
theorem dX11_isGone_2 : decode cX11_isGone 2 = .ok (.aload_n 0, 1) := dc_42 (by decide +kernel)
theorem dX11_isGone_3 : decode cX11_isGone 3 = .ok (.getfield 10, 3) := dc_180 0 10 (by decide +kernel)
theorem dX11_isGone_6 : decode cX11_isGone 6 = .ok (.getfield 85, 3) := dc_180 0 85 (by decide +kernel)
theorem kw_2_139 : (Jvm.Cond.fieldLink "ParishUnion" (85 : Nat) "ParishUnion$Union" "now" "I") ∈ gT := gT_of (tb_2 _ (List.mem_of_getElem? (i := 139) rfl)) rfl
theorem rc_1_15 : gRg 1 15 = (0, 300) ∧ gCr 1 15 = false ∧ gG 1 15 = 24 := by decide +kernel
theorem dX11_isGone_9 : decode cX11_isGone 9 = .ok (.iconst 1, 1) := dc_4 (by decide +kernel)
theorem dX11_isGone_10 : decode cX11_isGone 10 = .ok (.isub, 1) := dc_100 (by decide +kernel)
theorem dX11_isGone_11 : decode cX11_isGone 11 = .ok (.invokestatic 62, 3) := dc_184 0 62 (by decide +kernel)
theorem dX11_isGone_14 : decode cX11_isGone 14 = .ok (.ireturn, 1) := dc_172 (by decide +kernel)
abbrev R_X11_isGone : Room := { frames := 1, cells := 0, slots := 0, locals := 22 }
set_option maxRecDepth 100000 in
set_option maxHeartbeats 4000000 in
theorem s_X11_isGone {l : Launch} {n0 : Nat} {D : va_G} {cA : Nat → ClassId} {M : gM} (a : Int) (r_a : -2147483648 ≤ a ∧ a ≤ 2147483647) {sz : Nat} (hsz : 206 ≤ sz) (I : gI sz M) (C : gC sz M)   : Met l yX11_isGone (gWsOf yX11_isGone cX11_isGone 2 (Option.some Jvm.ClassFile.FieldType.boolean)) R_X11_isGone (gPc n0 D cA [gA n0 0, gJ a] M sz) (gQi n0 D cA sz (fun z M1 => M = M1 ∧ (0 ≤ z ∧ z ≤ 1) ∧ (((0 ≤ a ∧ a ≤ M 1 15 - 1 ∧ a ≤ 299) ∧ z = 1 ∨ ¬(0 ≤ a ∧ a ≤ M 1 15 - 1) ∧ z = 0)))) 0 0 (fun q => n0 ≤ q) := by
  refine gMetZ [gA n0 0, gJ a] (by decide) (Nat.le_of_ble_eq_true rfl) ⟨rfl, rfl⟩ ?_
  intro p e s m args below meth cd Q X hq
  have X : gCx p s m args meth cd n0 D cA "ParishUnion" cX11_isGone 2 := X
  show G p l e R_X11_isGone s m args below meth cd n0 D cA 2 Q 0 0 M sz 0 [(0, gA n0 0), (1, gJ a)] []
  refine g_iload_n (n := 1) X 1 dX11_isGone_0 rfl rfl rfl ?_
  refine g_iconst (n := 2) X dX11_isGone_1 rfl ?_
  refine g_aload_n (n := 3) X 0 dX11_isGone_2 rfl rfl rfl ?_
  refine gg_11_0 (n := 6) (z := 1) X (by decide) (gsz hsz (by decide)) lay_0 kw_2_231 dX11_isGone_3 rfl (rf_0_0 I (gsz hsz (by decide))) (by decide) ?_
  obtain ⟨v1, hv1, rv1⟩ := gRd I (by decide) (gsz hsz (by decide)) rc_1_15.1
  refine gg_9_15 (n := 9) (z := v1) X (by decide) (gsz hsz (by decide)) lay_1 kw_2_139 dX11_isGone_6 rfl hv1 ?_
  refine g_iconst (n := 10) X dX11_isGone_9 rfl ?_
  refine g_isub (n := 11) (z := v1 - 1) X dX11_isGone_10 (by omega) rfl ?_
  refine g_callSi (n := 14) (As := [gJ a, gJ 0, gJ (v1 - 1)]) (rest := []) (cs1 := 0) (ss1 := 0) X (s_X11_within a (by omega) 0 (by omega) (v1 - 1) (by omega) hsz I C ) okX11_within kw_3_29 kw_3_30 ⟨rfl, rfl⟩ ⟨Nat.le_of_ble_eq_true rfl, Nat.le_of_ble_eq_true rfl⟩ rfl rfl (Nat.le_of_ble_eq_true rfl) ⟨Nat.le_of_ble_eq_true rfl, Nat.le_of_ble_eq_true rfl⟩ rfl rfl dX11_isGone_11 rfl (fun v2 M3 P4 => ?_)
  obtain ⟨rfl, rv2, xv2⟩ := P4
  exact hq _ _ _ _ dX11_isGone_14 (by omega) ⟨rfl, by omega, by omega⟩
theorem dX12_isPerson_0 : decode cX12_isPerson 0 = .ok (.iload_n 1, 1) := dc_27 (by decide +kernel)
theorem dX12_isPerson_1 : decode cX12_isPerson 1 = .ok (.iconst 0, 1) := dc_3 (by decide +kernel)
theorem dX12_isPerson_2 : decode cX12_isPerson 2 = .ok (.aload_n 0, 1) := dc_42 (by decide +kernel)
theorem dX12_isPerson_3 : decode cX12_isPerson 3 = .ok (.getfield 7, 3) := dc_180 0 7 (by decide +kernel)
theorem kw_6_27 : (Jvm.Cond.fieldLink "ParishUnionModel" (7 : Nat) "ParishUnionModel" "s" "[I") ∈ gT := gT_of (tb_6 _ (List.mem_of_getElem? (i := 27) rfl)) rfl
theorem rf_190_1 {sz : Nat} {M : gM} (I : gI sz M) (h : (190 : Int) < (sz : Int)) : M 190 1 = 191 + 1 := gI.rf I (by decide) h (by decide +kernel)
theorem dX12_isPerson_6 : decode cX12_isPerson 6 = .ok (.iconst 1, 1) := dc_4 (by decide +kernel)
theorem dX12_isPerson_7 : decode cX12_isPerson 7 = .ok (.iaload, 1) := dc_46 (by decide +kernel)
theorem dX12_isPerson_8 : decode cX12_isPerson 8 = .ok (.iconst 1, 1) := dc_4 (by decide +kernel)
theorem dX12_isPerson_9 : decode cX12_isPerson 9 = .ok (.isub, 1) := dc_100 (by decide +kernel)
theorem dX12_isPerson_10 : decode cX12_isPerson 10 = .ok (.invokestatic 64, 3) := dc_184 0 64 (by decide +kernel)
theorem dX12_isPerson_13 : decode cX12_isPerson 13 = .ok (.ireturn, 1) := dc_172 (by decide +kernel)
abbrev R_X12_isPerson : Room := { frames := 1, cells := 0, slots := 0, locals := 22 }
set_option maxRecDepth 100000 in
set_option maxHeartbeats 4000000 in
theorem s_X12_isPerson {l : Launch} {n0 : Nat} {D : va_G} {cA : Nat → ClassId} {M : gM} (a : Int) (r_a : -2147483648 ≤ a ∧ a ≤ 2147483647) {sz : Nat} (hsz : 206 ≤ sz) (I : gI sz M) (C : gC sz M)   : Met l yX12_isPerson (gWsOf yX12_isPerson cX12_isPerson 2 (Option.some Jvm.ClassFile.FieldType.boolean)) R_X12_isPerson (gPc n0 D cA [gA n0 190, gJ a] M sz) (gQi n0 D cA sz (fun z M1 => M = M1 ∧ (0 ≤ z ∧ z ≤ 1) ∧ (((0 ≤ a ∧ a ≤ M 191 1 - 1 ∧ a ≤ 15) ∧ z = 1 ∨ ¬(0 ≤ a ∧ a ≤ M 191 1 - 1) ∧ z = 0)))) 0 0 (fun q => n0 ≤ q) := by
  refine gMetZ [gA n0 190, gJ a] (by decide) (Nat.le_of_ble_eq_true rfl) ⟨rfl, rfl⟩ ?_
  intro p e s m args below meth cd Q X hq
  have X : gCx p s m args meth cd n0 D cA "ParishUnionModel" cX12_isPerson 2 := X
  show G p l e R_X12_isPerson s m args below meth cd n0 D cA 2 Q 0 0 M sz 0 [(0, gA n0 190), (1, gJ a)] []
  refine g_iload_n (n := 1) X 1 dX12_isPerson_0 rfl rfl rfl ?_
  refine g_iconst (n := 2) X dX12_isPerson_1 rfl ?_
  refine g_aload_n (n := 3) X 0 dX12_isPerson_2 rfl rfl rfl ?_
  refine gg_12_1 (n := 6) (z := 191) X (by decide) (gsz hsz (by decide)) lay_190 kw_6_27 dX12_isPerson_3 rfl (rf_190_1 I (gsz hsz (by decide))) (by decide) ?_
  refine g_iconst (n := 7) X dX12_isPerson_6 rfl ?_
  obtain ⟨v1, hv1, rv1⟩ := gRd I (by decide) (gsz hsz (by decide)) (rs_PERS (k := 1) (by omega)).1
  refine g_iald2 (n := 8) (v := v1) X (by decide) (gsz hsz (by decide)) lay_191 (by omega) (by omega) (by decide) dX12_isPerson_7 rfl hv1 ?_
  refine g_iconst (n := 9) X dX12_isPerson_8 rfl ?_
  refine g_isub (n := 10) (z := v1 - 1) X dX12_isPerson_9 (by omega) rfl ?_
  refine g_callSi (n := 13) (As := [gJ a, gJ 0, gJ (v1 - 1)]) (rest := []) (cs1 := 0) (ss1 := 0) X (s_X12_in a (by omega) 0 (by omega) (v1 - 1) (by omega) hsz I C ) okX12_in kw_6_106 kw_6_107 ⟨rfl, rfl⟩ ⟨Nat.le_of_ble_eq_true rfl, Nat.le_of_ble_eq_true rfl⟩ rfl rfl (Nat.le_of_ble_eq_true rfl) ⟨Nat.le_of_ble_eq_true rfl, Nat.le_of_ble_eq_true rfl⟩ rfl rfl dX12_isPerson_10 rfl (fun v2 M3 P4 => ?_)
  obtain ⟨rfl, rv2, xv2⟩ := P4
  exact hq _ _ _ _ dX12_isPerson_13 (by omega) ⟨rfl, by omega, by omega⟩
theorem dX12_isBy_0 : decode cX12_isBy 0 = .ok (.iload_n 1, 1) := dc_27 (by decide +kernel)
theorem dX12_isBy_1 : decode cX12_isBy 1 = .ok (.iconst (-1), 1) := dc_2 (by decide +kernel)
theorem dX12_isBy_2 : decode cX12_isBy 2 = .ok (.aload_n 0, 1) := dc_42 (by decide +kernel)
theorem dX12_isBy_3 : decode cX12_isBy 3 = .ok (.getfield 7, 3) := dc_180 0 7 (by decide +kernel)
theorem dX12_isBy_6 : decode cX12_isBy 6 = .ok (.iconst 3, 1) := dc_6 (by decide +kernel)
theorem dX12_isBy_7 : decode cX12_isBy 7 = .ok (.iaload, 1) := dc_46 (by decide +kernel)
theorem dX12_isBy_8 : decode cX12_isBy 8 = .ok (.invokestatic 64, 3) := dc_184 0 64 (by decide +kernel)
theorem dX12_isBy_11 : decode cX12_isBy 11 = .ok (.ireturn, 1) := dc_172 (by decide +kernel)
abbrev R_X12_isBy : Room := { frames := 1, cells := 0, slots := 0, locals := 22 }
set_option maxRecDepth 100000 in
set_option maxHeartbeats 4000000 in
theorem s_X12_isBy {l : Launch} {n0 : Nat} {D : va_G} {cA : Nat → ClassId} {M : gM} (a : Int) (r_a : -2147483648 ≤ a ∧ a ≤ 2147483647) {sz : Nat} (hsz : 206 ≤ sz) (I : gI sz M) (C : gC sz M)   : Met l yX12_isBy (gWsOf yX12_isBy cX12_isBy 2 (Option.some Jvm.ClassFile.FieldType.boolean)) R_X12_isBy (gPc n0 D cA [gA n0 190, gJ a] M sz) (gQi n0 D cA sz (fun z M1 => M = M1 ∧ (0 ≤ z ∧ z ≤ 1) ∧ (((-1 ≤ a ∧ a ≤ M 191 3 ∧ a ≤ 80) ∧ z = 1 ∨ ¬(-1 ≤ a ∧ a ≤ M 191 3) ∧ z = 0)))) 0 0 (fun q => n0 ≤ q) := by
  refine gMetZ [gA n0 190, gJ a] (by decide) (Nat.le_of_ble_eq_true rfl) ⟨rfl, rfl⟩ ?_
  intro p e s m args below meth cd Q X hq
  have X : gCx p s m args meth cd n0 D cA "ParishUnionModel" cX12_isBy 2 := X
  show G p l e R_X12_isBy s m args below meth cd n0 D cA 2 Q 0 0 M sz 0 [(0, gA n0 190), (1, gJ a)] []
  refine g_iload_n (n := 1) X 1 dX12_isBy_0 rfl rfl rfl ?_
  refine g_iconst (n := 2) X dX12_isBy_1 rfl ?_
  refine g_aload_n (n := 3) X 0 dX12_isBy_2 rfl rfl rfl ?_
  refine gg_12_1 (n := 6) (z := 191) X (by decide) (gsz hsz (by decide)) lay_190 kw_6_27 dX12_isBy_3 rfl (rf_190_1 I (gsz hsz (by decide))) (by decide) ?_
  refine g_iconst (n := 7) X dX12_isBy_6 rfl ?_
  obtain ⟨v1, hv1, rv1⟩ := gRd I (by decide) (gsz hsz (by decide)) (rs_NE (k := 3) (by omega)).1
  refine g_iald2 (n := 8) (v := v1) X (by decide) (gsz hsz (by decide)) lay_191 (by omega) (by omega) (by decide) dX12_isBy_7 rfl hv1 ?_
  refine g_callSi (n := 11) (As := [gJ a, gJ (-1), gJ v1]) (rest := []) (cs1 := 0) (ss1 := 0) X (s_X12_in a (by omega) (-1) (by omega) v1 (by omega) hsz I C ) okX12_in kw_6_106 kw_6_107 ⟨rfl, rfl⟩ ⟨Nat.le_of_ble_eq_true rfl, Nat.le_of_ble_eq_true rfl⟩ rfl rfl (Nat.le_of_ble_eq_true rfl) ⟨Nat.le_of_ble_eq_true rfl, Nat.le_of_ble_eq_true rfl⟩ rfl rfl dX12_isBy_8 rfl (fun v2 M3 P4 => ?_)
  obtain ⟨rfl, rv2, xv2⟩ := P4
  exact hq _ _ _ _ dX12_isBy_11 (by omega) ⟨rfl, by omega, by omega⟩
theorem dX12_isGone_0 : decode cX12_isGone 0 = .ok (.iload_n 1, 1) := dc_27 (by decide +kernel)
theorem dX12_isGone_1 : decode cX12_isGone 1 = .ok (.iconst 0, 1) := dc_3 (by decide +kernel)
theorem dX12_isGone_2 : decode cX12_isGone 2 = .ok (.aload_n 0, 1) := dc_42 (by decide +kernel)
theorem dX12_isGone_3 : decode cX12_isGone 3 = .ok (.getfield 7, 3) := dc_180 0 7 (by decide +kernel)
theorem dX12_isGone_6 : decode cX12_isGone 6 = .ok (.iconst 0, 1) := dc_3 (by decide +kernel)
theorem dX12_isGone_7 : decode cX12_isGone 7 = .ok (.iaload, 1) := dc_46 (by decide +kernel)
theorem dX12_isGone_8 : decode cX12_isGone 8 = .ok (.iconst 1, 1) := dc_4 (by decide +kernel)
theorem dX12_isGone_9 : decode cX12_isGone 9 = .ok (.isub, 1) := dc_100 (by decide +kernel)
theorem dX12_isGone_10 : decode cX12_isGone 10 = .ok (.invokestatic 64, 3) := dc_184 0 64 (by decide +kernel)
theorem dX12_isGone_13 : decode cX12_isGone 13 = .ok (.ireturn, 1) := dc_172 (by decide +kernel)
abbrev R_X12_isGone : Room := { frames := 1, cells := 0, slots := 0, locals := 22 }
set_option maxRecDepth 100000 in
set_option maxHeartbeats 4000000 in
theorem s_X12_isGone {l : Launch} {n0 : Nat} {D : va_G} {cA : Nat → ClassId} {M : gM} (a : Int) (r_a : -2147483648 ≤ a ∧ a ≤ 2147483647) {sz : Nat} (hsz : 206 ≤ sz) (I : gI sz M) (C : gC sz M)   : Met l yX12_isGone (gWsOf yX12_isGone cX12_isGone 2 (Option.some Jvm.ClassFile.FieldType.boolean)) R_X12_isGone (gPc n0 D cA [gA n0 190, gJ a] M sz) (gQi n0 D cA sz (fun z M1 => M = M1 ∧ (0 ≤ z ∧ z ≤ 1) ∧ (((0 ≤ a ∧ a ≤ M 191 0 - 1 ∧ a ≤ 299) ∧ z = 1 ∨ ¬(0 ≤ a ∧ a ≤ M 191 0 - 1) ∧ z = 0)))) 0 0 (fun q => n0 ≤ q) := by
  refine gMetZ [gA n0 190, gJ a] (by decide) (Nat.le_of_ble_eq_true rfl) ⟨rfl, rfl⟩ ?_
  intro p e s m args below meth cd Q X hq
  have X : gCx p s m args meth cd n0 D cA "ParishUnionModel" cX12_isGone 2 := X
  show G p l e R_X12_isGone s m args below meth cd n0 D cA 2 Q 0 0 M sz 0 [(0, gA n0 190), (1, gJ a)] []
  refine g_iload_n (n := 1) X 1 dX12_isGone_0 rfl rfl rfl ?_
  refine g_iconst (n := 2) X dX12_isGone_1 rfl ?_
  refine g_aload_n (n := 3) X 0 dX12_isGone_2 rfl rfl rfl ?_
  refine gg_12_1 (n := 6) (z := 191) X (by decide) (gsz hsz (by decide)) lay_190 kw_6_27 dX12_isGone_3 rfl (rf_190_1 I (gsz hsz (by decide))) (by decide) ?_
  refine g_iconst (n := 7) X dX12_isGone_6 rfl ?_
  obtain ⟨v1, hv1, rv1⟩ := gRd I (by decide) (gsz hsz (by decide)) (rs_NOW (k := 0) (by omega)).1
  refine g_iald2 (n := 8) (v := v1) X (by decide) (gsz hsz (by decide)) lay_191 (by omega) (by omega) (by decide) dX12_isGone_7 rfl hv1 ?_
  refine g_iconst (n := 9) X dX12_isGone_8 rfl ?_
  refine g_isub (n := 10) (z := v1 - 1) X dX12_isGone_9 (by omega) rfl ?_
  refine g_callSi (n := 13) (As := [gJ a, gJ 0, gJ (v1 - 1)]) (rest := []) (cs1 := 0) (ss1 := 0) X (s_X12_in a (by omega) 0 (by omega) (v1 - 1) (by omega) hsz I C ) okX12_in kw_6_106 kw_6_107 ⟨rfl, rfl⟩ ⟨Nat.le_of_ble_eq_true rfl, Nat.le_of_ble_eq_true rfl⟩ rfl rfl (Nat.le_of_ble_eq_true rfl) ⟨Nat.le_of_ble_eq_true rfl, Nat.le_of_ble_eq_true rfl⟩ rfl rfl dX12_isGone_10 rfl (fun v2 M3 P4 => ?_)
  obtain ⟨rfl, rv2, xv2⟩ := P4
  exact hq _ _ _ _ dX12_isGone_13 (by omega) ⟨rfl, by omega, by omega⟩
theorem dX12_isRightWeek_0 : decode cX12_isRightWeek 0 = .ok (.iload_n 1, 1) := dc_27 (by decide +kernel)
theorem dX12_isRightWeek_1 : decode cX12_isRightWeek 1 = .ok (.sipush (-3000), 3) := dc_17 244 72 (-3000) (by decide +kernel)
theorem dX12_isRightWeek_4 : decode cX12_isRightWeek 4 = .ok (.aload_n 0, 1) := dc_42 (by decide +kernel)
theorem dX12_isRightWeek_5 : decode cX12_isRightWeek 5 = .ok (.getfield 7, 3) := dc_180 0 7 (by decide +kernel)
theorem dX12_isRightWeek_8 : decode cX12_isRightWeek 8 = .ok (.iconst 0, 1) := dc_3 (by decide +kernel)
theorem dX12_isRightWeek_9 : decode cX12_isRightWeek 9 = .ok (.iaload, 1) := dc_46 (by decide +kernel)
theorem dX12_isRightWeek_10 : decode cX12_isRightWeek 10 = .ok (.invokestatic 64, 3) := dc_184 0 64 (by decide +kernel)
theorem dX12_isRightWeek_13 : decode cX12_isRightWeek 13 = .ok (.ireturn, 1) := dc_172 (by decide +kernel)
abbrev R_X12_isRightWeek : Room := { frames := 1, cells := 0, slots := 0, locals := 22 }
set_option maxRecDepth 100000 in
set_option maxHeartbeats 4000000 in
theorem s_X12_isRightWeek {l : Launch} {n0 : Nat} {D : va_G} {cA : Nat → ClassId} {M : gM} (a : Int) (r_a : -2147483648 ≤ a ∧ a ≤ 2147483647) {sz : Nat} (hsz : 206 ≤ sz) (I : gI sz M) (C : gC sz M)   : Met l yX12_isRightWeek (gWsOf yX12_isRightWeek cX12_isRightWeek 2 (Option.some Jvm.ClassFile.FieldType.boolean)) R_X12_isRightWeek (gPc n0 D cA [gA n0 190, gJ a] M sz) (gQi n0 D cA sz (fun z M1 => M = M1 ∧ (0 ≤ z ∧ z ≤ 1) ∧ (((-3000 ≤ a ∧ a ≤ M 191 0 ∧ a ≤ 300) ∧ z = 1 ∨ ¬(-3000 ≤ a ∧ a ≤ M 191 0) ∧ z = 0)))) 0 0 (fun q => n0 ≤ q) := by
  refine gMetZ [gA n0 190, gJ a] (by decide) (Nat.le_of_ble_eq_true rfl) ⟨rfl, rfl⟩ ?_
  intro p e s m args below meth cd Q X hq
  have X : gCx p s m args meth cd n0 D cA "ParishUnionModel" cX12_isRightWeek 2 := X
  show G p l e R_X12_isRightWeek s m args below meth cd n0 D cA 2 Q 0 0 M sz 0 [(0, gA n0 190), (1, gJ a)] []
  refine g_iload_n (n := 1) X 1 dX12_isRightWeek_0 rfl rfl rfl ?_
  refine g_sipush (n := 4) X dX12_isRightWeek_1 (by decide +kernel) rfl ?_
  refine g_aload_n (n := 5) X 0 dX12_isRightWeek_4 rfl rfl rfl ?_
  refine gg_12_1 (n := 8) (z := 191) X (by decide) (gsz hsz (by decide)) lay_190 kw_6_27 dX12_isRightWeek_5 rfl (rf_190_1 I (gsz hsz (by decide))) (by decide) ?_
  refine g_iconst (n := 9) X dX12_isRightWeek_8 rfl ?_
  obtain ⟨v1, hv1, rv1⟩ := gRd I (by decide) (gsz hsz (by decide)) (rs_NOW (k := 0) (by omega)).1
  refine g_iald2 (n := 10) (v := v1) X (by decide) (gsz hsz (by decide)) lay_191 (by omega) (by omega) (by decide) dX12_isRightWeek_9 rfl hv1 ?_
  refine g_callSi (n := 13) (As := [gJ a, gJ (-3000), gJ v1]) (rest := []) (cs1 := 0) (ss1 := 0) X (s_X12_in a (by omega) (-3000) (by omega) v1 (by omega) hsz I C ) okX12_in kw_6_106 kw_6_107 ⟨rfl, rfl⟩ ⟨Nat.le_of_ble_eq_true rfl, Nat.le_of_ble_eq_true rfl⟩ rfl rfl (Nat.le_of_ble_eq_true rfl) ⟨Nat.le_of_ble_eq_true rfl, Nat.le_of_ble_eq_true rfl⟩ rfl rfl dX12_isRightWeek_10 rfl (fun v2 M3 P4 => ?_)
  obtain ⟨rfl, rv2, xv2⟩ := P4
  exact hq _ _ _ _ dX12_isRightWeek_13 (by omega) ⟨rfl, by omega, by omega⟩
theorem dX12_isOrder_0 : decode cX12_isOrder 0 = .ok (.iload_n 1, 1) := dc_27 (by decide +kernel)
theorem dX12_isOrder_1 : decode cX12_isOrder 1 = .ok (.iconst 0, 1) := dc_3 (by decide +kernel)
theorem dX12_isOrder_2 : decode cX12_isOrder 2 = .ok (.aload_n 0, 1) := dc_42 (by decide +kernel)
theorem dX12_isOrder_3 : decode cX12_isOrder 3 = .ok (.getfield 7, 3) := dc_180 0 7 (by decide +kernel)
theorem dX12_isOrder_6 : decode cX12_isOrder 6 = .ok (.iconst 5, 1) := dc_8 (by decide +kernel)
theorem dX12_isOrder_7 : decode cX12_isOrder 7 = .ok (.iaload, 1) := dc_46 (by decide +kernel)
theorem dX12_isOrder_8 : decode cX12_isOrder 8 = .ok (.iconst 1, 1) := dc_4 (by decide +kernel)
theorem dX12_isOrder_9 : decode cX12_isOrder 9 = .ok (.isub, 1) := dc_100 (by decide +kernel)
theorem dX12_isOrder_10 : decode cX12_isOrder 10 = .ok (.invokestatic 64, 3) := dc_184 0 64 (by decide +kernel)
theorem dX12_isOrder_13 : decode cX12_isOrder 13 = .ok (.ireturn, 1) := dc_172 (by decide +kernel)
abbrev R_X12_isOrder : Room := { frames := 1, cells := 0, slots := 0, locals := 22 }
set_option maxRecDepth 100000 in
set_option maxHeartbeats 4000000 in
theorem s_X12_isOrder {l : Launch} {n0 : Nat} {D : va_G} {cA : Nat → ClassId} {M : gM} (a : Int) (r_a : -2147483648 ≤ a ∧ a ≤ 2147483647) {sz : Nat} (hsz : 206 ≤ sz) (I : gI sz M) (C : gC sz M)   : Met l yX12_isOrder (gWsOf yX12_isOrder cX12_isOrder 2 (Option.some Jvm.ClassFile.FieldType.boolean)) R_X12_isOrder (gPc n0 D cA [gA n0 190, gJ a] M sz) (gQi n0 D cA sz (fun z M1 => M = M1 ∧ (0 ≤ z ∧ z ≤ 1) ∧ (((0 ≤ a ∧ a ≤ M 191 5 - 1 ∧ a ≤ 19) ∧ z = 1 ∨ ¬(0 ≤ a ∧ a ≤ M 191 5 - 1) ∧ z = 0)))) 0 0 (fun q => n0 ≤ q) := by
  refine gMetZ [gA n0 190, gJ a] (by decide) (Nat.le_of_ble_eq_true rfl) ⟨rfl, rfl⟩ ?_
  intro p e s m args below meth cd Q X hq
  have X : gCx p s m args meth cd n0 D cA "ParishUnionModel" cX12_isOrder 2 := X
  show G p l e R_X12_isOrder s m args below meth cd n0 D cA 2 Q 0 0 M sz 0 [(0, gA n0 190), (1, gJ a)] []
  refine g_iload_n (n := 1) X 1 dX12_isOrder_0 rfl rfl rfl ?_
  refine g_iconst (n := 2) X dX12_isOrder_1 rfl ?_
  refine g_aload_n (n := 3) X 0 dX12_isOrder_2 rfl rfl rfl ?_
  refine gg_12_1 (n := 6) (z := 191) X (by decide) (gsz hsz (by decide)) lay_190 kw_6_27 dX12_isOrder_3 rfl (rf_190_1 I (gsz hsz (by decide))) (by decide) ?_
  refine g_iconst (n := 7) X dX12_isOrder_6 rfl ?_
  obtain ⟨v1, hv1, rv1⟩ := gRd I (by decide) (gsz hsz (by decide)) (rs_NO (k := 5) (by omega)).1
  refine g_iald2 (n := 8) (v := v1) X (by decide) (gsz hsz (by decide)) lay_191 (by omega) (by omega) (by decide) dX12_isOrder_7 rfl hv1 ?_
  refine g_iconst (n := 9) X dX12_isOrder_8 rfl ?_
  refine g_isub (n := 10) (z := v1 - 1) X dX12_isOrder_9 (by omega) rfl ?_
  refine g_callSi (n := 13) (As := [gJ a, gJ 0, gJ (v1 - 1)]) (rest := []) (cs1 := 0) (ss1 := 0) X (s_X12_in a (by omega) 0 (by omega) (v1 - 1) (by omega) hsz I C ) okX12_in kw_6_106 kw_6_107 ⟨rfl, rfl⟩ ⟨Nat.le_of_ble_eq_true rfl, Nat.le_of_ble_eq_true rfl⟩ rfl rfl (Nat.le_of_ble_eq_true rfl) ⟨Nat.le_of_ble_eq_true rfl, Nat.le_of_ble_eq_true rfl⟩ rfl rfl dX12_isOrder_10 rfl (fun v2 M3 P4 => ?_)
  obtain ⟨rfl, rv2, xv2⟩ := P4
  exact hq _ _ _ _ dX12_isOrder_13 (by omega) ⟨rfl, by omega, by omega⟩
