theorem dX12_in_0 : decode cX12_in 0 = .ok (.iload_n 0, 1) := by decide +kernel
theorem dX12_in_1 : decode cX12_in 1 = .ok (.iload_n 1, 1) := by decide +kernel
theorem dX12_in_2 : decode cX12_in 2 = .ok (.if_icmp .lt 12, 3) := by decide +kernel
theorem dX12_in_14 : decode cX12_in 14 = .ok (.iconst 0, 1) := by decide +kernel
theorem dX12_in_15 : decode cX12_in 15 = .ok (.ireturn, 1) := by decide +kernel
theorem dX12_in_5 : decode cX12_in 5 = .ok (.iload_n 0, 1) := by decide +kernel
theorem dX12_in_6 : decode cX12_in 6 = .ok (.iload_n 2, 1) := by decide +kernel
theorem dX12_in_7 : decode cX12_in 7 = .ok (.if_icmp .gt 7, 3) := by decide +kernel
theorem dX12_in_10 : decode cX12_in 10 = .ok (.iconst 1, 1) := by decide +kernel
theorem dX12_in_11 : decode cX12_in 11 = .ok (.goto 4, 3) := by decide +kernel
set_option maxRecDepth 100000 in
set_option maxHeartbeats 4000000 in
theorem c_X12_in {l : Launch} {n0 : Nat} {D : va_G} {cA : Nat → ClassId} {M : gM} (a b g : Int) (r_a : -2147483648 ≤ a ∧ a ≤ 2147483647) (r_b : -2147483648 ≤ b ∧ b ≤ 2147483647) (r_g : -2147483648 ≤ g ∧ g ≤ 2147483647) {sz : Nat} (hsz : 206 ≤ sz) : Met l yX12_in (gWsOf yX12_in cX12_in 3 (Option.some Jvm.ClassFile.FieldType.boolean)) { frames := 0, cells := 0, slots := 0, locals := 0 } (gPc n0 D cA [gJ a, gJ b, gJ g] M sz) (gQi n0 D cA sz (fun z M1 => M = M1 ∧ ((b ≤ a ∧ a ≤ g) ∧ z = 1 ∨ ¬(b ≤ a ∧ a ≤ g) ∧ z = 0))) 0 0 (fun q => n0 ≤ q) := by
  refine gMet_of [gJ a, gJ b, gJ g] (by decide) (Nat.le_of_ble_eq_true rfl) ?_
  intro p e s m args below meth cd X hr hm
  have X : gCx p s m args meth cd n0 D cA "ParishUnionModel" cX12_in 3 := X
  show G p l e ({ frames := 0, cells := 0, slots := 0, locals := 0 } : Room) s m args below meth cd n0 D cA 3 (MQ below (gQi n0 D cA sz (fun z M1 => M = M1 ∧ ((b ≤ a ∧ a ≤ g) ∧ z = 1 ∨ ¬(b ≤ a ∧ a ≤ g) ∧ z = 0))) args s 0 0 (fun q => n0 ≤ q)) 0 0 M sz 0 [(0, gJ a), (1, gJ b), (2, gJ g)] []
  refine g_iload_n (n := 1) X 0 dX12_in_0 rfl rfl rfl ?_
  refine g_iload_n (n := 2) X 1 dX12_in_1 rfl rfl rfl ?_
  refine g_icmp_lt (n := 5) (tgt := 14) X dX12_in_2 (by decide) (by omega) (by omega) rfl (fun c1 => ?_) (fun c1 => ?_)
  · refine g_iconst (n := 15) X dX12_in_14 rfl ?_
    exact g_zreturn X (by omega) hr dX12_in_15 (by exact ⟨rfl, by omega⟩)
  · refine g_iload_n (n := 6) X 0 dX12_in_5 rfl rfl rfl ?_
    refine g_iload_n (n := 7) X 2 dX12_in_6 rfl rfl rfl ?_
    refine g_icmp_gt (n := 10) (tgt := 14) X dX12_in_7 (by decide) (by omega) (by omega) rfl (fun c2 => ?_) (fun c2 => ?_)
    · refine g_iconst (n := 15) X dX12_in_14 rfl ?_
      exact g_zreturn X (by omega) hr dX12_in_15 (by exact ⟨rfl, by omega⟩)
    · refine g_iconst (n := 11) X dX12_in_10 rfl ?_
      refine g_goto (tgt := 15) X dX12_in_11 (by decide) ?_
      exact g_zreturn X (by omega) hr dX12_in_15 (by exact ⟨rfl, by omega⟩)
theorem dX12_isParish_0 : decode cX12_isParish 0 = .ok (.iload_n 0, 1) := by decide +kernel
theorem dX12_isParish_1 : decode cX12_isParish 1 = .ok (.iconst 0, 1) := by decide +kernel
theorem dX12_isParish_2 : decode cX12_isParish 2 = .ok (.iconst 5, 1) := by decide +kernel
theorem dX12_isParish_3 : decode cX12_isParish 3 = .ok (.invokestatic 64, 3) := by decide +kernel
theorem kw_6_106 : (Jvm.Cond.methodLink "ParishUnionModel" (64 : Nat) ({ cls := "ParishUnionModel", name := "in", desc := "(III)Z" } : Jvm.MethodName)) ∈ gT := gT_of (tb_6 _ (List.mem_of_getElem? (i := 106) rfl)) rfl
theorem kw_6_108 : (Jvm.Cond.code ({ cls := "ParishUnionModel", name := "in", desc := "(III)Z" } : Jvm.MethodName) prog_14_method_3_code (3 : Nat) (Option.some Jvm.ClassFile.FieldType.boolean)) ∈ gT := gT_of (tb_6 _ (List.mem_of_getElem? (i := 108) rfl)) rfl
theorem kw_1_13 : (Jvm.Cond.initialized "ParishUnionModel") ∈ gT := gT_of (tb_1 _ (List.mem_of_getElem? (i := 13) rfl)) rfl
theorem okX12_in : gQok yX12_in cX12_in 3 (Option.some Jvm.ClassFile.FieldType.boolean) 3 := ⟨kw_6_108, kw_1_13, by decide +kernel, by decide +kernel, by decide +kernel⟩
theorem kw_6_107 : (Jvm.Cond.static ({ cls := "ParishUnionModel", name := "in", desc := "(III)Z" } : Jvm.MethodName)) ∈ gT := gT_of (tb_6 _ (List.mem_of_getElem? (i := 107) rfl)) rfl
theorem dX12_isParish_6 : decode cX12_isParish 6 = .ok (.ireturn, 1) := by decide +kernel
set_option maxRecDepth 100000 in
set_option maxHeartbeats 4000000 in
theorem c_X12_isParish {l : Launch} {n0 : Nat} {D : va_G} {cA : Nat → ClassId} {M : gM} (a : Int) (r_a : -2147483648 ≤ a ∧ a ≤ 2147483647) {sz : Nat} (hsz : 206 ≤ sz) : Met l yX12_isParish (gWsOf yX12_isParish cX12_isParish 1 (Option.some Jvm.ClassFile.FieldType.boolean)) { frames := 1, cells := 0, slots := 0, locals := 22 } (gPc n0 D cA [gJ a] M sz) (gQi n0 D cA sz (fun z M1 => M = M1 ∧ ((0 ≤ a ∧ a ≤ 5) ∧ z = 1 ∨ ¬(0 ≤ a ∧ a ≤ 5) ∧ z = 0))) 0 0 (fun q => n0 ≤ q) := by
  refine gMet_of [gJ a] (by decide) (Nat.le_of_ble_eq_true rfl) ?_
  intro p e s m args below meth cd X hr hm
  have X : gCx p s m args meth cd n0 D cA "ParishUnionModel" cX12_isParish 1 := X
  show G p l e ({ frames := 1, cells := 0, slots := 0, locals := 22 } : Room) s m args below meth cd n0 D cA 1 (MQ below (gQi n0 D cA sz (fun z M1 => M = M1 ∧ ((0 ≤ a ∧ a ≤ 5) ∧ z = 1 ∨ ¬(0 ≤ a ∧ a ≤ 5) ∧ z = 0))) args s 0 0 (fun q => n0 ≤ q)) 0 0 M sz 0 [(0, gJ a)] []
  refine g_iload_n (n := 1) X 0 dX12_isParish_0 rfl rfl rfl ?_
  refine g_iconst (n := 2) X dX12_isParish_1 rfl ?_
  refine g_iconst (n := 3) X dX12_isParish_2 rfl ?_
  refine g_callSi (n := 6) (As := [gJ a, gJ 0, gJ 5]) (rest := []) (cs1 := 0) (ss1 := 0) X (c_X12_in a 0 5 (by omega) (by omega) (by omega) (by omega)) okX12_in kw_6_106 kw_6_107 ⟨rfl, rfl⟩ ⟨Nat.le_of_ble_eq_true rfl, Nat.le_of_ble_eq_true rfl⟩ rfl rfl (Nat.le_of_ble_eq_true rfl) ⟨Nat.le_of_ble_eq_true rfl, Nat.le_of_ble_eq_true rfl⟩ rfl rfl dX12_isParish_3 rfl (fun z1 M2 P3 => ?_)
  obtain ⟨rfl, P3⟩ := P3
  exact g_zreturn X (by omega) hr dX12_isParish_6 (by exact ⟨rfl, by omega⟩)
theorem dX12_isPerson_0 : decode cX12_isPerson 0 = .ok (.iload_n 1, 1) := by decide +kernel
theorem dX12_isPerson_1 : decode cX12_isPerson 1 = .ok (.iconst 0, 1) := by decide +kernel
theorem dX12_isPerson_2 : decode cX12_isPerson 2 = .ok (.aload_n 0, 1) := by decide +kernel
theorem dX12_isPerson_3 : decode cX12_isPerson 3 = .ok (.getfield 7, 3) := by decide +kernel
theorem kw_6_27 : (Jvm.Cond.fieldLink "ParishUnionModel" (7 : Nat) "ParishUnionModel" "s" "[I") ∈ gT := gT_of (tb_6 _ (List.mem_of_getElem? (i := 27) rfl)) rfl
theorem dX12_isPerson_6 : decode cX12_isPerson 6 = .ok (.iconst 1, 1) := by decide +kernel
theorem dX12_isPerson_7 : decode cX12_isPerson 7 = .ok (.iaload, 1) := by decide +kernel
theorem dX12_isPerson_8 : decode cX12_isPerson 8 = .ok (.iconst 1, 1) := by decide +kernel
theorem dX12_isPerson_9 : decode cX12_isPerson 9 = .ok (.isub, 1) := by decide +kernel
theorem dX12_isPerson_10 : decode cX12_isPerson 10 = .ok (.invokestatic 64, 3) := by decide +kernel
theorem dX12_isPerson_13 : decode cX12_isPerson 13 = .ok (.ireturn, 1) := by decide +kernel
set_option maxRecDepth 100000 in
set_option maxHeartbeats 4000000 in
theorem c_X12_isPerson {l : Launch} {n0 : Nat} {D : va_G} {cA : Nat → ClassId} {M : gM} (a : Int) (r_a : -2147483648 ≤ a ∧ a ≤ 2147483647) {sz : Nat} (hsz : 206 ≤ sz) (f_190_1 : M 190 1 = 192) (f_191_1 : M 191 1 = 0) : Met l yX12_isPerson (gWsOf yX12_isPerson cX12_isPerson 2 (Option.some Jvm.ClassFile.FieldType.boolean)) { frames := 1, cells := 0, slots := 0, locals := 22 } (gPc n0 D cA [gA n0 190, gJ a] M sz) (gQi n0 D cA sz (fun z M1 => M = M1 ∧ (z = 0))) 0 0 (fun q => n0 ≤ q) := by
  refine gMet_of [gA n0 190, gJ a] (by decide) (Nat.le_of_ble_eq_true rfl) ?_
  intro p e s m args below meth cd X hr hm
  have X : gCx p s m args meth cd n0 D cA "ParishUnionModel" cX12_isPerson 2 := X
  show G p l e ({ frames := 1, cells := 0, slots := 0, locals := 22 } : Room) s m args below meth cd n0 D cA 2 (MQ below (gQi n0 D cA sz (fun z M1 => M = M1 ∧ (z = 0))) args s 0 0 (fun q => n0 ≤ q)) 0 0 M sz 0 [(0, gA n0 190), (1, gJ a)] []
  refine g_iload_n (n := 1) X 1 dX12_isPerson_0 rfl rfl rfl ?_
  refine g_iconst (n := 2) X dX12_isPerson_1 rfl ?_
  refine g_aload_n (n := 3) X 0 dX12_isPerson_2 rfl rfl rfl ?_
  refine gg_12_1 (n := 6) (z := 191) X (by omega) (by omega) lay_190 kw_6_27 dX12_isPerson_3 rfl f_190_1 (by omega) ?_
  refine g_iconst (n := 7) X dX12_isPerson_6 rfl ?_
  refine g_iald (n := 8) X (by omega) (by omega) lay_191 (by omega) (by omega) (by omega) dX12_isPerson_7 rfl ?_
  rw [show M 191 1 = 0 from f_191_1]
  refine g_iconst (n := 9) X dX12_isPerson_8 rfl ?_
  refine g_isub (n := 10) (z := (-1)) X dX12_isPerson_9 rfl rfl ?_
  refine g_callSi (n := 13) (As := [gJ a, gJ 0, gJ (-1)]) (rest := []) (cs1 := 0) (ss1 := 0) X (c_X12_in a 0 (-1) (by omega) (by omega) (by omega) (by omega)) okX12_in kw_6_106 kw_6_107 ⟨rfl, rfl⟩ ⟨Nat.le_of_ble_eq_true rfl, Nat.le_of_ble_eq_true rfl⟩ rfl rfl (Nat.le_of_ble_eq_true rfl) ⟨Nat.le_of_ble_eq_true rfl, Nat.le_of_ble_eq_true rfl⟩ rfl rfl dX12_isPerson_10 rfl (fun z1 M2 P3 => ?_)
  obtain ⟨rfl, P3⟩ := P3
  obtain rfl : z1 = 0 := by omega
  exact g_zreturn X (by omega) hr dX12_isPerson_13 (by exact ⟨rfl, by omega⟩)
theorem dX12_isBy_0 : decode cX12_isBy 0 = .ok (.iload_n 1, 1) := by decide +kernel
theorem dX12_isBy_1 : decode cX12_isBy 1 = .ok (.iconst (-1), 1) := by decide +kernel
theorem dX12_isBy_2 : decode cX12_isBy 2 = .ok (.aload_n 0, 1) := by decide +kernel
theorem dX12_isBy_3 : decode cX12_isBy 3 = .ok (.getfield 7, 3) := by decide +kernel
theorem dX12_isBy_6 : decode cX12_isBy 6 = .ok (.iconst 3, 1) := by decide +kernel
theorem dX12_isBy_7 : decode cX12_isBy 7 = .ok (.iaload, 1) := by decide +kernel
theorem dX12_isBy_8 : decode cX12_isBy 8 = .ok (.invokestatic 64, 3) := by decide +kernel
theorem dX12_isBy_11 : decode cX12_isBy 11 = .ok (.ireturn, 1) := by decide +kernel
set_option maxRecDepth 100000 in
set_option maxHeartbeats 4000000 in
theorem c_X12_isBy {l : Launch} {n0 : Nat} {D : va_G} {cA : Nat → ClassId} {M : gM} (a : Int) (r_a : -2147483648 ≤ a ∧ a ≤ 2147483647) {sz : Nat} (hsz : 206 ≤ sz) (f_190_1 : M 190 1 = 192) (f_191_3 : M 191 3 = 0) : Met l yX12_isBy (gWsOf yX12_isBy cX12_isBy 2 (Option.some Jvm.ClassFile.FieldType.boolean)) { frames := 1, cells := 0, slots := 0, locals := 22 } (gPc n0 D cA [gA n0 190, gJ a] M sz) (gQi n0 D cA sz (fun z M1 => M = M1 ∧ ((-1 ≤ a ∧ a ≤ 0) ∧ z = 1 ∨ ¬(-1 ≤ a ∧ a ≤ 0) ∧ z = 0))) 0 0 (fun q => n0 ≤ q) := by
  refine gMet_of [gA n0 190, gJ a] (by decide) (Nat.le_of_ble_eq_true rfl) ?_
  intro p e s m args below meth cd X hr hm
  have X : gCx p s m args meth cd n0 D cA "ParishUnionModel" cX12_isBy 2 := X
  show G p l e ({ frames := 1, cells := 0, slots := 0, locals := 22 } : Room) s m args below meth cd n0 D cA 2 (MQ below (gQi n0 D cA sz (fun z M1 => M = M1 ∧ ((-1 ≤ a ∧ a ≤ 0) ∧ z = 1 ∨ ¬(-1 ≤ a ∧ a ≤ 0) ∧ z = 0))) args s 0 0 (fun q => n0 ≤ q)) 0 0 M sz 0 [(0, gA n0 190), (1, gJ a)] []
  refine g_iload_n (n := 1) X 1 dX12_isBy_0 rfl rfl rfl ?_
  refine g_iconst (n := 2) X dX12_isBy_1 rfl ?_
  refine g_aload_n (n := 3) X 0 dX12_isBy_2 rfl rfl rfl ?_
  refine gg_12_1 (n := 6) (z := 191) X (by omega) (by omega) lay_190 kw_6_27 dX12_isBy_3 rfl f_190_1 (by omega) ?_
  refine g_iconst (n := 7) X dX12_isBy_6 rfl ?_
  refine g_iald (n := 8) X (by omega) (by omega) lay_191 (by omega) (by omega) (by omega) dX12_isBy_7 rfl ?_
  rw [show M 191 3 = 0 from f_191_3]
  refine g_callSi (n := 11) (As := [gJ a, gJ (-1), gJ 0]) (rest := []) (cs1 := 0) (ss1 := 0) X (c_X12_in a (-1) 0 (by omega) (by omega) (by omega) (by omega)) okX12_in kw_6_106 kw_6_107 ⟨rfl, rfl⟩ ⟨Nat.le_of_ble_eq_true rfl, Nat.le_of_ble_eq_true rfl⟩ rfl rfl (Nat.le_of_ble_eq_true rfl) ⟨Nat.le_of_ble_eq_true rfl, Nat.le_of_ble_eq_true rfl⟩ rfl rfl dX12_isBy_8 rfl (fun z1 M2 P3 => ?_)
  obtain ⟨rfl, P3⟩ := P3
  exact g_zreturn X (by omega) hr dX12_isBy_11 (by exact ⟨rfl, by omega⟩)
theorem dX12_isGone_0 : decode cX12_isGone 0 = .ok (.iload_n 1, 1) := by decide +kernel
theorem dX12_isGone_1 : decode cX12_isGone 1 = .ok (.iconst 0, 1) := by decide +kernel
theorem dX12_isGone_2 : decode cX12_isGone 2 = .ok (.aload_n 0, 1) := by decide +kernel
theorem dX12_isGone_3 : decode cX12_isGone 3 = .ok (.getfield 7, 3) := by decide +kernel
theorem dX12_isGone_6 : decode cX12_isGone 6 = .ok (.iconst 0, 1) := by decide +kernel
theorem dX12_isGone_7 : decode cX12_isGone 7 = .ok (.iaload, 1) := by decide +kernel
theorem dX12_isGone_8 : decode cX12_isGone 8 = .ok (.iconst 1, 1) := by decide +kernel
theorem dX12_isGone_9 : decode cX12_isGone 9 = .ok (.isub, 1) := by decide +kernel
theorem dX12_isGone_10 : decode cX12_isGone 10 = .ok (.invokestatic 64, 3) := by decide +kernel
theorem dX12_isGone_13 : decode cX12_isGone 13 = .ok (.ireturn, 1) := by decide +kernel
set_option maxRecDepth 100000 in
set_option maxHeartbeats 4000000 in
theorem c_X12_isGone {l : Launch} {n0 : Nat} {D : va_G} {cA : Nat → ClassId} {M : gM} (a : Int) (r_a : -2147483648 ≤ a ∧ a ≤ 2147483647) {sz : Nat} (hsz : 206 ≤ sz) (f_190_1 : M 190 1 = 192) (f_191_0 : M 191 0 = 0) : Met l yX12_isGone (gWsOf yX12_isGone cX12_isGone 2 (Option.some Jvm.ClassFile.FieldType.boolean)) { frames := 1, cells := 0, slots := 0, locals := 22 } (gPc n0 D cA [gA n0 190, gJ a] M sz) (gQi n0 D cA sz (fun z M1 => M = M1 ∧ (z = 0))) 0 0 (fun q => n0 ≤ q) := by
  refine gMet_of [gA n0 190, gJ a] (by decide) (Nat.le_of_ble_eq_true rfl) ?_
  intro p e s m args below meth cd X hr hm
  have X : gCx p s m args meth cd n0 D cA "ParishUnionModel" cX12_isGone 2 := X
  show G p l e ({ frames := 1, cells := 0, slots := 0, locals := 22 } : Room) s m args below meth cd n0 D cA 2 (MQ below (gQi n0 D cA sz (fun z M1 => M = M1 ∧ (z = 0))) args s 0 0 (fun q => n0 ≤ q)) 0 0 M sz 0 [(0, gA n0 190), (1, gJ a)] []
  refine g_iload_n (n := 1) X 1 dX12_isGone_0 rfl rfl rfl ?_
  refine g_iconst (n := 2) X dX12_isGone_1 rfl ?_
  refine g_aload_n (n := 3) X 0 dX12_isGone_2 rfl rfl rfl ?_
  refine gg_12_1 (n := 6) (z := 191) X (by omega) (by omega) lay_190 kw_6_27 dX12_isGone_3 rfl f_190_1 (by omega) ?_
  refine g_iconst (n := 7) X dX12_isGone_6 rfl ?_
  refine g_iald (n := 8) X (by omega) (by omega) lay_191 (by omega) (by omega) (by omega) dX12_isGone_7 rfl ?_
  rw [show M 191 0 = 0 from f_191_0]
  refine g_iconst (n := 9) X dX12_isGone_8 rfl ?_
  refine g_isub (n := 10) (z := (-1)) X dX12_isGone_9 rfl rfl ?_
  refine g_callSi (n := 13) (As := [gJ a, gJ 0, gJ (-1)]) (rest := []) (cs1 := 0) (ss1 := 0) X (c_X12_in a 0 (-1) (by omega) (by omega) (by omega) (by omega)) okX12_in kw_6_106 kw_6_107 ⟨rfl, rfl⟩ ⟨Nat.le_of_ble_eq_true rfl, Nat.le_of_ble_eq_true rfl⟩ rfl rfl (Nat.le_of_ble_eq_true rfl) ⟨Nat.le_of_ble_eq_true rfl, Nat.le_of_ble_eq_true rfl⟩ rfl rfl dX12_isGone_10 rfl (fun z1 M2 P3 => ?_)
  obtain ⟨rfl, P3⟩ := P3
  obtain rfl : z1 = 0 := by omega
  exact g_zreturn X (by omega) hr dX12_isGone_13 (by exact ⟨rfl, by omega⟩)
theorem dX12_isWeek_0 : decode cX12_isWeek 0 = .ok (.iload_n 0, 1) := by decide +kernel
theorem dX12_isWeek_1 : decode cX12_isWeek 1 = .ok (.iconst 0, 1) := by decide +kernel
theorem dX12_isWeek_2 : decode cX12_isWeek 2 = .ok (.sipush 300, 3) := by decide +kernel
theorem dX12_isWeek_5 : decode cX12_isWeek 5 = .ok (.invokestatic 64, 3) := by decide +kernel
theorem dX12_isWeek_8 : decode cX12_isWeek 8 = .ok (.ireturn, 1) := by decide +kernel
set_option maxRecDepth 100000 in
set_option maxHeartbeats 4000000 in
theorem c_X12_isWeek {l : Launch} {n0 : Nat} {D : va_G} {cA : Nat → ClassId} {M : gM} (a : Int) (r_a : -2147483648 ≤ a ∧ a ≤ 2147483647) {sz : Nat} (hsz : 206 ≤ sz) : Met l yX12_isWeek (gWsOf yX12_isWeek cX12_isWeek 1 (Option.some Jvm.ClassFile.FieldType.boolean)) { frames := 1, cells := 0, slots := 0, locals := 22 } (gPc n0 D cA [gJ a] M sz) (gQi n0 D cA sz (fun z M1 => M = M1 ∧ ((0 ≤ a ∧ a ≤ 300) ∧ z = 1 ∨ ¬(0 ≤ a ∧ a ≤ 300) ∧ z = 0))) 0 0 (fun q => n0 ≤ q) := by
  refine gMet_of [gJ a] (by decide) (Nat.le_of_ble_eq_true rfl) ?_
  intro p e s m args below meth cd X hr hm
  have X : gCx p s m args meth cd n0 D cA "ParishUnionModel" cX12_isWeek 1 := X
  show G p l e ({ frames := 1, cells := 0, slots := 0, locals := 22 } : Room) s m args below meth cd n0 D cA 1 (MQ below (gQi n0 D cA sz (fun z M1 => M = M1 ∧ ((0 ≤ a ∧ a ≤ 300) ∧ z = 1 ∨ ¬(0 ≤ a ∧ a ≤ 300) ∧ z = 0))) args s 0 0 (fun q => n0 ≤ q)) 0 0 M sz 0 [(0, gJ a)] []
  refine g_iload_n (n := 1) X 0 dX12_isWeek_0 rfl rfl rfl ?_
  refine g_iconst (n := 2) X dX12_isWeek_1 rfl ?_
  refine g_sipush (n := 5) X dX12_isWeek_2 (by decide +kernel) rfl ?_
  refine g_callSi (n := 8) (As := [gJ a, gJ 0, gJ 300]) (rest := []) (cs1 := 0) (ss1 := 0) X (c_X12_in a 0 300 (by omega) (by omega) (by omega) (by omega)) okX12_in kw_6_106 kw_6_107 ⟨rfl, rfl⟩ ⟨Nat.le_of_ble_eq_true rfl, Nat.le_of_ble_eq_true rfl⟩ rfl rfl (Nat.le_of_ble_eq_true rfl) ⟨Nat.le_of_ble_eq_true rfl, Nat.le_of_ble_eq_true rfl⟩ rfl rfl dX12_isWeek_5 rfl (fun z1 M2 P3 => ?_)
  obtain ⟨rfl, P3⟩ := P3
  exact g_zreturn X (by omega) hr dX12_isWeek_8 (by exact ⟨rfl, by omega⟩)
theorem dX12_isOrder_0 : decode cX12_isOrder 0 = .ok (.iload_n 1, 1) := by decide +kernel
theorem dX12_isOrder_1 : decode cX12_isOrder 1 = .ok (.iconst 0, 1) := by decide +kernel
theorem dX12_isOrder_2 : decode cX12_isOrder 2 = .ok (.aload_n 0, 1) := by decide +kernel
theorem dX12_isOrder_3 : decode cX12_isOrder 3 = .ok (.getfield 7, 3) := by decide +kernel
theorem dX12_isOrder_6 : decode cX12_isOrder 6 = .ok (.iconst 5, 1) := by decide +kernel
theorem dX12_isOrder_7 : decode cX12_isOrder 7 = .ok (.iaload, 1) := by decide +kernel
theorem dX12_isOrder_8 : decode cX12_isOrder 8 = .ok (.iconst 1, 1) := by decide +kernel
theorem dX12_isOrder_9 : decode cX12_isOrder 9 = .ok (.isub, 1) := by decide +kernel
theorem dX12_isOrder_10 : decode cX12_isOrder 10 = .ok (.invokestatic 64, 3) := by decide +kernel
theorem dX12_isOrder_13 : decode cX12_isOrder 13 = .ok (.ireturn, 1) := by decide +kernel
set_option maxRecDepth 100000 in
set_option maxHeartbeats 4000000 in
theorem c_X12_isOrder {l : Launch} {n0 : Nat} {D : va_G} {cA : Nat → ClassId} {M : gM} (a : Int) (r_a : -2147483648 ≤ a ∧ a ≤ 2147483647) {sz : Nat} (hsz : 206 ≤ sz) (f_190_1 : M 190 1 = 192) (f_191_5 : M 191 5 = 0) : Met l yX12_isOrder (gWsOf yX12_isOrder cX12_isOrder 2 (Option.some Jvm.ClassFile.FieldType.boolean)) { frames := 1, cells := 0, slots := 0, locals := 22 } (gPc n0 D cA [gA n0 190, gJ a] M sz) (gQi n0 D cA sz (fun z M1 => M = M1 ∧ (z = 0))) 0 0 (fun q => n0 ≤ q) := by
  refine gMet_of [gA n0 190, gJ a] (by decide) (Nat.le_of_ble_eq_true rfl) ?_
  intro p e s m args below meth cd X hr hm
  have X : gCx p s m args meth cd n0 D cA "ParishUnionModel" cX12_isOrder 2 := X
  show G p l e ({ frames := 1, cells := 0, slots := 0, locals := 22 } : Room) s m args below meth cd n0 D cA 2 (MQ below (gQi n0 D cA sz (fun z M1 => M = M1 ∧ (z = 0))) args s 0 0 (fun q => n0 ≤ q)) 0 0 M sz 0 [(0, gA n0 190), (1, gJ a)] []
  refine g_iload_n (n := 1) X 1 dX12_isOrder_0 rfl rfl rfl ?_
  refine g_iconst (n := 2) X dX12_isOrder_1 rfl ?_
  refine g_aload_n (n := 3) X 0 dX12_isOrder_2 rfl rfl rfl ?_
  refine gg_12_1 (n := 6) (z := 191) X (by omega) (by omega) lay_190 kw_6_27 dX12_isOrder_3 rfl f_190_1 (by omega) ?_
  refine g_iconst (n := 7) X dX12_isOrder_6 rfl ?_
  refine g_iald (n := 8) X (by omega) (by omega) lay_191 (by omega) (by omega) (by omega) dX12_isOrder_7 rfl ?_
  rw [show M 191 5 = 0 from f_191_5]
  refine g_iconst (n := 9) X dX12_isOrder_8 rfl ?_
  refine g_isub (n := 10) (z := (-1)) X dX12_isOrder_9 rfl rfl ?_
  refine g_callSi (n := 13) (As := [gJ a, gJ 0, gJ (-1)]) (rest := []) (cs1 := 0) (ss1 := 0) X (c_X12_in a 0 (-1) (by omega) (by omega) (by omega) (by omega)) okX12_in kw_6_106 kw_6_107 ⟨rfl, rfl⟩ ⟨Nat.le_of_ble_eq_true rfl, Nat.le_of_ble_eq_true rfl⟩ rfl rfl (Nat.le_of_ble_eq_true rfl) ⟨Nat.le_of_ble_eq_true rfl, Nat.le_of_ble_eq_true rfl⟩ rfl rfl dX12_isOrder_10 rfl (fun z1 M2 P3 => ?_)
  obtain ⟨rfl, P3⟩ := P3
  obtain rfl : z1 = 0 := by omega
  exact g_zreturn X (by omega) hr dX12_isOrder_13 (by exact ⟨rfl, by omega⟩)
theorem dX12_farOf_0 : decode cX12_farOf 0 = .ok (.aload_n 0, 1) := by decide +kernel
theorem dX12_farOf_1 : decode cX12_farOf 1 = .ok (.getfield 7, 3) := by decide +kernel
theorem dX12_farOf_4 : decode cX12_farOf 4 = .ok (.bipush 24, 2) := by decide +kernel
theorem dX12_farOf_6 : decode cX12_farOf 6 = .ok (.bipush 6, 2) := by decide +kernel
theorem dX12_farOf_8 : decode cX12_farOf 8 = .ok (.iload_n 1, 1) := by decide +kernel
theorem dX12_farOf_9 : decode cX12_farOf 9 = .ok (.imul, 1) := by decide +kernel
theorem dX12_farOf_10 : decode cX12_farOf 10 = .ok (.iadd, 1) := by decide +kernel
theorem dX12_farOf_11 : decode cX12_farOf 11 = .ok (.iload_n 2, 1) := by decide +kernel
theorem dX12_farOf_12 : decode cX12_farOf 12 = .ok (.iadd, 1) := by decide +kernel
theorem dX12_farOf_13 : decode cX12_farOf 13 = .ok (.iaload, 1) := by decide +kernel
theorem dX12_farOf_14 : decode cX12_farOf 14 = .ok (.ireturn, 1) := by decide +kernel
set_option maxRecDepth 100000 in
set_option maxHeartbeats 4000000 in
theorem c_X12_farOf {l : Launch} {n0 : Nat} {D : va_G} {cA : Nat → ClassId} {M : gM} (a b : Int) (r_a : -2147483648 ≤ a ∧ a ≤ 2147483647) (r_b : -2147483648 ≤ b ∧ b ≤ 2147483647) {sz : Nat} (hsz : 206 ≤ sz) (f_190_1 : M 190 1 = 192) (hab : 0 ≤ a ∧ a ≤ 5 ∧ 0 ≤ b ∧ b ≤ 5) (hS : ∀ i : Int, 0 ≤ i → i < 25301 → M 191 i = gS0 i) : Met l yX12_farOf (gWsOf yX12_farOf cX12_farOf 3 (Option.some Jvm.ClassFile.FieldType.int)) { frames := 0, cells := 0, slots := 0, locals := 0 } (gPc n0 D cA [gA n0 190, gJ a, gJ b] M sz) (gQi n0 D cA sz (fun z M1 => M = M1 ∧ ((a = b → z = 0) ∧ (¬ a = b → z = 99)))) 0 0 (fun q => n0 ≤ q) := by
  refine gMet_of [gA n0 190, gJ a, gJ b] (by decide) (Nat.le_of_ble_eq_true rfl) ?_
  intro p e s m args below meth cd X hr hm
  have X : gCx p s m args meth cd n0 D cA "ParishUnionModel" cX12_farOf 3 := X
  show G p l e ({ frames := 0, cells := 0, slots := 0, locals := 0 } : Room) s m args below meth cd n0 D cA 3 (MQ below (gQi n0 D cA sz (fun z M1 => M = M1 ∧ ((a = b → z = 0) ∧ (¬ a = b → z = 99)))) args s 0 0 (fun q => n0 ≤ q)) 0 0 M sz 0 [(0, gA n0 190), (1, gJ a), (2, gJ b)] []
  refine g_aload_n (n := 1) X 0 dX12_farOf_0 rfl rfl rfl ?_
  refine gg_12_1 (n := 4) (z := 191) X (by omega) (by omega) lay_190 kw_6_27 dX12_farOf_1 rfl f_190_1 (by omega) ?_
  refine g_bipush (n := 6) X dX12_farOf_4 (by decide +kernel) rfl ?_
  refine g_bipush (n := 8) X dX12_farOf_6 (by decide +kernel) rfl ?_
  refine g_iload_n (n := 9) X 1 dX12_farOf_8 rfl rfl rfl ?_
  refine g_imul (n := 10) (z := 6 * a) X dX12_farOf_9 rfl rfl ?_
  refine g_iadd (n := 11) (z := 24 + (6 * a)) X dX12_farOf_10 rfl rfl ?_
  refine g_iload_n (n := 12) X 2 dX12_farOf_11 rfl rfl rfl ?_
  refine g_iadd (n := 13) (z := (24 + (6 * a)) + b) X dX12_farOf_12 rfl rfl ?_
  refine g_iald (n := 14) X (by omega) (by omega) lay_191 (by omega) (by omega) (by omega) dX12_farOf_13 rfl ?_
  exact g_ireturn X hr dX12_farOf_14 (by exact ⟨rfl, by have hw := hS (24 + 6 * a + b) (by omega) (by omega); have hv := gS0_road (i := 24 + 6 * a + b) (by omega) (by omega); omega⟩)
theorem dX12_parish_0 : decode cX12_parish 0 = .ok (.iload_n 1, 1) := by decide +kernel
theorem dX12_parish_1 : decode cX12_parish 1 = .ok (.invokestatic 68, 3) := by decide +kernel
theorem kw_6_103 : (Jvm.Cond.methodLink "ParishUnionModel" (68 : Nat) ({ cls := "ParishUnionModel", name := "isParish", desc := "(I)Z" } : Jvm.MethodName)) ∈ gT := gT_of (tb_6 _ (List.mem_of_getElem? (i := 103) rfl)) rfl
theorem kw_6_105 : (Jvm.Cond.code ({ cls := "ParishUnionModel", name := "isParish", desc := "(I)Z" } : Jvm.MethodName) prog_14_method_4_code (1 : Nat) (Option.some Jvm.ClassFile.FieldType.boolean)) ∈ gT := gT_of (tb_6 _ (List.mem_of_getElem? (i := 105) rfl)) rfl
theorem okX12_isParish : gQok yX12_isParish cX12_isParish 1 (Option.some Jvm.ClassFile.FieldType.boolean) 1 := ⟨kw_6_105, kw_1_13, by decide +kernel, by decide +kernel, by decide +kernel⟩
theorem kw_6_104 : (Jvm.Cond.static ({ cls := "ParishUnionModel", name := "isParish", desc := "(I)Z" } : Jvm.MethodName)) ∈ gT := gT_of (tb_6 _ (List.mem_of_getElem? (i := 104) rfl)) rfl
theorem dX12_parish_4 : decode cX12_parish 4 = .ok (.ifCond .ne 5, 3) := by decide +kernel
theorem dX12_parish_9 : decode cX12_parish 9 = .ok (.iload_n 2, 1) := by decide +kernel
theorem dX12_parish_10 : decode cX12_parish 10 = .ok (.iconst 0, 1) := by decide +kernel
theorem dX12_parish_11 : decode cX12_parish 11 = .ok (.sipush 9999, 3) := by decide +kernel
theorem dX12_parish_14 : decode cX12_parish 14 = .ok (.invokestatic 64, 3) := by decide +kernel
theorem dX12_parish_17 : decode cX12_parish 17 = .ok (.ifCond .ne 6, 3) := by decide +kernel
theorem dX12_parish_23 : decode cX12_parish 23 = .ok (.aload_n 0, 1) := by decide +kernel
theorem dX12_parish_24 : decode cX12_parish 24 = .ok (.getfield 7, 3) := by decide +kernel
theorem dX12_parish_27 : decode cX12_parish 27 = .ok (.bipush 16, 2) := by decide +kernel
theorem dX12_parish_29 : decode cX12_parish 29 = .ok (.iload_n 1, 1) := by decide +kernel
theorem dX12_parish_30 : decode cX12_parish 30 = .ok (.iadd, 1) := by decide +kernel
theorem dX12_parish_31 : decode cX12_parish 31 = .ok (.iaload, 1) := by decide +kernel
theorem dX12_parish_32 : decode cX12_parish 32 = .ok (.istore_n 3, 1) := by decide +kernel
theorem dX12_parish_33 : decode cX12_parish 33 = .ok (.aload_n 0, 1) := by decide +kernel
theorem dX12_parish_34 : decode cX12_parish 34 = .ok (.getfield 7, 3) := by decide +kernel
theorem dX12_parish_37 : decode cX12_parish 37 = .ok (.bipush 16, 2) := by decide +kernel
theorem dX12_parish_39 : decode cX12_parish 39 = .ok (.iload_n 1, 1) := by decide +kernel
theorem dX12_parish_40 : decode cX12_parish 40 = .ok (.iadd, 1) := by decide +kernel
theorem dX12_parish_41 : decode cX12_parish 41 = .ok (.iload_n 2, 1) := by decide +kernel
theorem dX12_parish_42 : decode cX12_parish 42 = .ok (.iastore, 1) := by decide +kernel
theorem dX12_parish_43 : decode cX12_parish 43 = .ok (.iload_n 3, 1) := by decide +kernel
theorem dX12_parish_44 : decode cX12_parish 44 = .ok (.ireturn, 1) := by decide +kernel
theorem dX12_parish_20 : decode cX12_parish 20 = .ok (.bipush (-2), 2) := by decide +kernel
theorem dX12_parish_22 : decode cX12_parish 22 = .ok (.ireturn, 1) := by decide +kernel
theorem dX12_parish_7 : decode cX12_parish 7 = .ok (.iconst (-1), 1) := by decide +kernel
theorem dX12_parish_8 : decode cX12_parish 8 = .ok (.ireturn, 1) := by decide +kernel
set_option maxRecDepth 100000 in
set_option maxHeartbeats 4000000 in
theorem c_X12_parish {l : Launch} {n0 : Nat} {D : va_G} {cA : Nat → ClassId} {M : gM} (a b : Int) (r_a : -2147483648 ≤ a ∧ a ≤ 2147483647) (r_b : -2147483648 ≤ b ∧ b ≤ 2147483647) {sz : Nat} (hsz : 206 ≤ sz) (f_190_1 : M 190 1 = 192) (hS : ∀ i : Int, 0 ≤ i → i < 25301 → M 191 i = gS0 i) : Met l yX12_parish (gWsOf yX12_parish cX12_parish 4 (Option.some Jvm.ClassFile.FieldType.int)) { frames := 2, cells := 0, slots := 0, locals := 42 } (gPc n0 D cA [gA n0 190, gJ a, gJ b] M sz) (gQi n0 D cA sz (fun z M1 => (((¬(0 ≤ a ∧ a ≤ 5)) → z = -1) ∧ (¬(¬(0 ≤ a ∧ a ≤ 5)) → (¬(0 ≤ b ∧ b ≤ 9999)) → z = -2) ∧ (¬(¬(0 ≤ a ∧ a ≤ 5)) → ¬(¬(0 ≤ b ∧ b ≤ 9999)) → (z = 100))) ∧ ∀ a : Int, a ≠ 191 → M1 a = M a)) 0 0 (fun q => n0 ≤ q) := by
  refine gMet_of [gA n0 190, gJ a, gJ b] (by decide) (Nat.le_of_ble_eq_true rfl) ?_
  intro p e s m args below meth cd X hr hm
  have X : gCx p s m args meth cd n0 D cA "ParishUnionModel" cX12_parish 4 := X
  show G p l e ({ frames := 2, cells := 0, slots := 0, locals := 42 } : Room) s m args below meth cd n0 D cA 4 (MQ below (gQi n0 D cA sz (fun z M1 => (((¬(0 ≤ a ∧ a ≤ 5)) → z = -1) ∧ (¬(¬(0 ≤ a ∧ a ≤ 5)) → (¬(0 ≤ b ∧ b ≤ 9999)) → z = -2) ∧ (¬(¬(0 ≤ a ∧ a ≤ 5)) → ¬(¬(0 ≤ b ∧ b ≤ 9999)) → (z = 100))) ∧ ∀ a : Int, a ≠ 191 → M1 a = M a)) args s 0 0 (fun q => n0 ≤ q)) 0 0 M sz 0 [(0, gA n0 190), (1, gJ a), (2, gJ b)] []
  refine g_iload_n (n := 1) X 1 dX12_parish_0 rfl rfl rfl ?_
  refine g_callSi (n := 4) (As := [gJ a]) (rest := []) (cs1 := 0) (ss1 := 0) X (c_X12_isParish a (by omega) (by omega)) okX12_isParish kw_6_103 kw_6_104 ⟨rfl, rfl⟩ ⟨Nat.le_of_ble_eq_true rfl, Nat.le_of_ble_eq_true rfl⟩ rfl rfl (Nat.le_of_ble_eq_true rfl) ⟨Nat.le_of_ble_eq_true rfl, Nat.le_of_ble_eq_true rfl⟩ rfl rfl dX12_parish_1 rfl (fun z1 M2 P3 => ?_)
  obtain ⟨rfl, P3⟩ := P3
  refine g_if_ne (n := 7) (tgt := 9) X dX12_parish_4 (by decide) (by omega) rfl (fun c4 => ?_) (fun c4 => ?_)
  · refine g_iload_n (n := 10) X 2 dX12_parish_9 rfl rfl rfl ?_
    refine g_iconst (n := 11) X dX12_parish_10 rfl ?_
    refine g_sipush (n := 14) X dX12_parish_11 (by decide +kernel) rfl ?_
    refine g_callSi (n := 17) (As := [gJ b, gJ 0, gJ 9999]) (rest := []) (cs1 := 0) (ss1 := 0) X (c_X12_in b 0 9999 (by omega) (by omega) (by omega) (by omega)) okX12_in kw_6_106 kw_6_107 ⟨rfl, rfl⟩ ⟨Nat.le_of_ble_eq_true rfl, Nat.le_of_ble_eq_true rfl⟩ rfl rfl (Nat.le_of_ble_eq_true rfl) ⟨Nat.le_of_ble_eq_true rfl, Nat.le_of_ble_eq_true rfl⟩ rfl rfl dX12_parish_14 rfl (fun z5 M6 P7 => ?_)
    obtain ⟨rfl, P7⟩ := P7
    refine g_if_ne (n := 20) (tgt := 23) X dX12_parish_17 (by decide) (by omega) rfl (fun c8 => ?_) (fun c8 => ?_)
    · refine g_aload_n (n := 24) X 0 dX12_parish_23 rfl rfl rfl ?_
      refine gg_12_1 (n := 27) (z := 191) X (by omega) (by omega) lay_190 kw_6_27 dX12_parish_24 rfl f_190_1 (by omega) ?_
      refine g_bipush (n := 29) X dX12_parish_27 (by decide +kernel) rfl ?_
      refine g_iload_n (n := 30) X 1 dX12_parish_29 rfl rfl rfl ?_
      refine g_iadd (n := 31) (z := 16 + a) X dX12_parish_30 rfl rfl ?_
      refine g_iald (n := 32) X (by omega) (by omega) lay_191 (by omega) (by omega) (by omega) dX12_parish_31 rfl ?_
      rw [show M 191 (16 + a) = 100 from ((hS _ (by omega) (by omega)).trans (gS0_rent (by omega) (by omega)))]
      refine g_istore_n (n := 33) (L' := [(3, gJ 100), (0, gA n0 190), (1, gJ a), (2, gJ b)]) X dX12_parish_32 rfl (by decide) rfl rfl ?_
      refine g_aload_n (n := 34) X 1 dX12_parish_33 rfl rfl rfl ?_
      refine gg_12_1 (n := 37) (z := 191) X (by omega) (by omega) lay_190 kw_6_27 dX12_parish_34 rfl f_190_1 (by omega) ?_
      refine g_bipush (n := 39) X dX12_parish_37 (by decide +kernel) rfl ?_
      refine g_iload_n (n := 40) X 2 dX12_parish_39 rfl rfl rfl ?_
      refine g_iadd (n := 41) (z := 16 + a) X dX12_parish_40 rfl rfl ?_
      refine g_iload_n (n := 42) X 3 dX12_parish_41 rfl rfl rfl ?_
      refine g_iast (n := 43) X (by omega) (by omega) lay_191 (by omega) (by omega) (by omega) dX12_parish_42 rfl ?_
      refine G.nm (fun M9 e10 => ?_)
      refine g_iload_n (n := 44) X 0 dX12_parish_43 rfl rfl rfl ?_
      exact g_ireturn X hr dX12_parish_44 (by exact ⟨by omega, fun a h0 => ((congrFun e10 a).trans ((gset_off a (by omega)).trans rfl))⟩)
    · refine g_bipush (n := 22) X dX12_parish_20 (by decide +kernel) rfl ?_
      exact g_ireturn X hr dX12_parish_22 (by exact ⟨by omega, fun a h0 => rfl⟩)
  · refine g_iconst (n := 8) X dX12_parish_7 rfl ?_
    exact g_ireturn X hr dX12_parish_8 (by exact ⟨by omega, fun a h0 => rfl⟩)
theorem dX12_far_0 : decode cX12_far 0 = .ok (.iload_n 1, 1) := by decide +kernel
theorem dX12_far_1 : decode cX12_far 1 = .ok (.invokestatic 68, 3) := by decide +kernel
theorem dX12_far_4 : decode cX12_far 4 = .ok (.ifCond .eq 19, 3) := by decide +kernel
theorem dX12_far_23 : decode cX12_far 23 = .ok (.iconst (-1), 1) := by decide +kernel
theorem dX12_far_24 : decode cX12_far 24 = .ok (.ireturn, 1) := by decide +kernel
theorem dX12_far_7 : decode cX12_far 7 = .ok (.iload_n 2, 1) := by decide +kernel
theorem dX12_far_8 : decode cX12_far 8 = .ok (.invokestatic 68, 3) := by decide +kernel
theorem dX12_far_11 : decode cX12_far 11 = .ok (.ifCond .eq 12, 3) := by decide +kernel
theorem dX12_far_14 : decode cX12_far 14 = .ok (.aload_n 0, 1) := by decide +kernel
theorem dX12_far_15 : decode cX12_far 15 = .ok (.iload_n 1, 1) := by decide +kernel
theorem dX12_far_16 : decode cX12_far 16 = .ok (.iload_n 2, 1) := by decide +kernel
theorem dX12_far_17 : decode cX12_far 17 = .ok (.invokevirtual 72, 3) := by decide +kernel
theorem kw_6_113 : (Jvm.Cond.methodLink "ParishUnionModel" (72 : Nat) ({ cls := "ParishUnionModel", name := "farOf", desc := "(II)I" } : Jvm.MethodName)) ∈ gT := gT_of (tb_6 _ (List.mem_of_getElem? (i := 113) rfl)) rfl
theorem kw_6_116 : (Jvm.Cond.code ({ cls := "ParishUnionModel", name := "farOf", desc := "(II)I" } : Jvm.MethodName) prog_14_method_10_code (3 : Nat) (Option.some Jvm.ClassFile.FieldType.int)) ∈ gT := gT_of (tb_6 _ (List.mem_of_getElem? (i := 116) rfl)) rfl
theorem okX12_farOf : gQok yX12_farOf cX12_farOf 3 (Option.some Jvm.ClassFile.FieldType.int) 2 := ⟨kw_6_116, kw_1_13, by decide +kernel, by decide +kernel, by decide +kernel⟩
theorem kw_6_115 : (Jvm.Cond.instanceMethod ({ cls := "ParishUnionModel", name := "farOf", desc := "(II)I" } : Jvm.MethodName)) ∈ gT := gT_of (tb_6 _ (List.mem_of_getElem? (i := 115) rfl)) rfl
theorem kw_0_39 : (Jvm.Cond.selects "ParishUnionModel" ({ cls := "ParishUnionModel", name := "farOf", desc := "(II)I" } : Jvm.MethodName) ({ cls := "ParishUnionModel", name := "farOf", desc := "(II)I" } : Jvm.MethodName)) ∈ gT := gT_of (tb_0 _ (List.mem_of_getElem? (i := 39) rfl)) rfl
theorem dX12_far_20 : decode cX12_far 20 = .ok (.goto 4, 3) := by decide +kernel
set_option maxRecDepth 100000 in
set_option maxHeartbeats 4000000 in
theorem c_X12_far {l : Launch} {n0 : Nat} {D : va_G} {cA : Nat → ClassId} {M : gM} (a b : Int) (r_a : -2147483648 ≤ a ∧ a ≤ 2147483647) (r_b : -2147483648 ≤ b ∧ b ≤ 2147483647) {sz : Nat} (hsz : 206 ≤ sz) (f_190_1 : M 190 1 = 192) (hS : ∀ i : Int, 0 ≤ i → i < 25301 → M 191 i = gS0 i) : Met l yX12_far (gWsOf yX12_far cX12_far 3 (Option.some Jvm.ClassFile.FieldType.int)) { frames := 2, cells := 0, slots := 0, locals := 42 } (gPc n0 D cA [gA n0 190, gJ a, gJ b] M sz) (gQi n0 D cA sz (fun z M1 => (((¬(0 ≤ a ∧ a ≤ 5) ∨ ¬(0 ≤ b ∧ b ≤ 5)) → z = -1) ∧ (¬(¬(0 ≤ a ∧ a ≤ 5) ∨ ¬(0 ≤ b ∧ b ≤ 5)) → ((a = b → z = 0) ∧ (¬ a = b → z = 99)))) ∧ ∀ a : Int, M1 a = M a)) 0 0 (fun q => n0 ≤ q) := by
  refine gMet_of [gA n0 190, gJ a, gJ b] (by decide) (Nat.le_of_ble_eq_true rfl) ?_
  intro p e s m args below meth cd X hr hm
  have X : gCx p s m args meth cd n0 D cA "ParishUnionModel" cX12_far 3 := X
  show G p l e ({ frames := 2, cells := 0, slots := 0, locals := 42 } : Room) s m args below meth cd n0 D cA 3 (MQ below (gQi n0 D cA sz (fun z M1 => (((¬(0 ≤ a ∧ a ≤ 5) ∨ ¬(0 ≤ b ∧ b ≤ 5)) → z = -1) ∧ (¬(¬(0 ≤ a ∧ a ≤ 5) ∨ ¬(0 ≤ b ∧ b ≤ 5)) → ((a = b → z = 0) ∧ (¬ a = b → z = 99)))) ∧ ∀ a : Int, M1 a = M a)) args s 0 0 (fun q => n0 ≤ q)) 0 0 M sz 0 [(0, gA n0 190), (1, gJ a), (2, gJ b)] []
  refine g_iload_n (n := 1) X 1 dX12_far_0 rfl rfl rfl ?_
  refine g_callSi (n := 4) (As := [gJ a]) (rest := []) (cs1 := 0) (ss1 := 0) X (c_X12_isParish a (by omega) (by omega)) okX12_isParish kw_6_103 kw_6_104 ⟨rfl, rfl⟩ ⟨Nat.le_of_ble_eq_true rfl, Nat.le_of_ble_eq_true rfl⟩ rfl rfl (Nat.le_of_ble_eq_true rfl) ⟨Nat.le_of_ble_eq_true rfl, Nat.le_of_ble_eq_true rfl⟩ rfl rfl dX12_far_1 rfl (fun z1 M2 P3 => ?_)
  obtain ⟨rfl, P3⟩ := P3
  refine g_if_eq (n := 7) (tgt := 23) X dX12_far_4 (by decide) (by omega) rfl (fun c4 => ?_) (fun c4 => ?_)
  · refine g_iconst (n := 24) X dX12_far_23 rfl ?_
    exact g_ireturn X hr dX12_far_24 (by exact ⟨by omega, fun a  => rfl⟩)
  · refine g_iload_n (n := 8) X 2 dX12_far_7 rfl rfl rfl ?_
    refine g_callSi (n := 11) (As := [gJ b]) (rest := []) (cs1 := 0) (ss1 := 0) X (c_X12_isParish b (by omega) (by omega)) okX12_isParish kw_6_103 kw_6_104 ⟨rfl, rfl⟩ ⟨Nat.le_of_ble_eq_true rfl, Nat.le_of_ble_eq_true rfl⟩ rfl rfl (Nat.le_of_ble_eq_true rfl) ⟨Nat.le_of_ble_eq_true rfl, Nat.le_of_ble_eq_true rfl⟩ rfl rfl dX12_far_8 rfl (fun z5 M6 P7 => ?_)
    obtain ⟨rfl, P7⟩ := P7
    refine g_if_eq (n := 14) (tgt := 23) X dX12_far_11 (by decide) (by omega) rfl (fun c8 => ?_) (fun c8 => ?_)
    · refine g_iconst (n := 24) X dX12_far_23 rfl ?_
      exact g_ireturn X hr dX12_far_24 (by exact ⟨by omega, fun a  => rfl⟩)
    · refine g_aload_n (n := 15) X 0 dX12_far_14 rfl rfl rfl ?_
      refine g_iload_n (n := 16) X 1 dX12_far_15 rfl rfl rfl ?_
      refine g_iload_n (n := 17) X 2 dX12_far_16 rfl rfl rfl ?_
      refine g_callVi (n := 20) (As := [gJ a, gJ b]) (rest := []) (cs1 := 0) (ss1 := 0) X (c_X12_farOf a b (by omega) (by omega) (by omega) f_190_1 (by omega) hS) okX12_farOf kw_6_113 ⟨kw_6_115, kw_0_39⟩ ⟨rfl, rfl⟩ ⟨Nat.le_of_ble_eq_true rfl, Nat.le_of_ble_eq_true rfl⟩ rfl (by omega) (by omega) lay_190 rfl rfl (Nat.le_of_ble_eq_true rfl) ⟨Nat.le_of_ble_eq_true rfl, Nat.le_of_ble_eq_true rfl⟩ rfl rfl dX12_far_17 rfl (fun z9 M10 P11 => ?_)
      obtain ⟨rfl, P11⟩ := P11
      refine g_goto (tgt := 24) X dX12_far_20 (by decide) ?_
      exact g_ireturn X hr dX12_far_24 (by exact ⟨by omega, fun a  => rfl⟩)
theorem dX12_about_0 : decode cX12_about 0 = .ok (.aload_n 0, 1) := by decide +kernel
theorem dX12_about_1 : decode cX12_about 1 = .ok (.iload_n 1, 1) := by decide +kernel
theorem dX12_about_2 : decode cX12_about 2 = .ok (.invokevirtual 76, 3) := by decide +kernel
theorem kw_6_125 : (Jvm.Cond.methodLink "ParishUnionModel" (76 : Nat) ({ cls := "ParishUnionModel", name := "isPerson", desc := "(I)Z" } : Jvm.MethodName)) ∈ gT := gT_of (tb_6 _ (List.mem_of_getElem? (i := 125) rfl)) rfl
theorem kw_6_128 : (Jvm.Cond.code ({ cls := "ParishUnionModel", name := "isPerson", desc := "(I)Z" } : Jvm.MethodName) prog_14_method_5_code (2 : Nat) (Option.some Jvm.ClassFile.FieldType.boolean)) ∈ gT := gT_of (tb_6 _ (List.mem_of_getElem? (i := 128) rfl)) rfl
theorem okX12_isPerson : gQok yX12_isPerson cX12_isPerson 2 (Option.some Jvm.ClassFile.FieldType.boolean) 1 := ⟨kw_6_128, kw_1_13, by decide +kernel, by decide +kernel, by decide +kernel⟩
theorem kw_6_127 : (Jvm.Cond.instanceMethod ({ cls := "ParishUnionModel", name := "isPerson", desc := "(I)Z" } : Jvm.MethodName)) ∈ gT := gT_of (tb_6 _ (List.mem_of_getElem? (i := 127) rfl)) rfl
theorem kw_0_40 : (Jvm.Cond.selects "ParishUnionModel" ({ cls := "ParishUnionModel", name := "isPerson", desc := "(I)Z" } : Jvm.MethodName) ({ cls := "ParishUnionModel", name := "isPerson", desc := "(I)Z" } : Jvm.MethodName)) ∈ gT := gT_of (tb_0 _ (List.mem_of_getElem? (i := 40) rfl)) rfl
theorem dX12_about_5 : decode cX12_about 5 = .ok (.ifCond .eq 13, 3) := by decide +kernel
theorem dX12_about_18 : decode cX12_about 18 = .ok (.iconst (-1), 1) := by decide +kernel
theorem dX12_about_19 : decode cX12_about 19 = .ok (.ireturn, 1) := by decide +kernel
set_option maxRecDepth 100000 in
set_option maxHeartbeats 4000000 in
theorem c_X12_about {l : Launch} {n0 : Nat} {D : va_G} {cA : Nat → ClassId} {M : gM} (a b : Int) (r_a : -2147483648 ≤ a ∧ a ≤ 2147483647) (r_b : -2147483648 ≤ b ∧ b ≤ 2147483647) {sz : Nat} (hsz : 206 ≤ sz) (f_190_1 : M 190 1 = 192) (f_191_1 : M 191 1 = 0) : Met l yX12_about (gWsOf yX12_about cX12_about 3 (Option.some Jvm.ClassFile.FieldType.int)) { frames := 2, cells := 0, slots := 0, locals := 43 } (gPc n0 D cA [gA n0 190, gJ a, gJ b] M sz) (gQi n0 D cA sz (fun z M1 => (z = -1) ∧ ∀ a : Int, M1 a = M a)) 0 0 (fun q => n0 ≤ q) := by
  refine gMet_of [gA n0 190, gJ a, gJ b] (by decide) (Nat.le_of_ble_eq_true rfl) ?_
  intro p e s m args below meth cd X hr hm
  have X : gCx p s m args meth cd n0 D cA "ParishUnionModel" cX12_about 3 := X
  show G p l e ({ frames := 2, cells := 0, slots := 0, locals := 43 } : Room) s m args below meth cd n0 D cA 3 (MQ below (gQi n0 D cA sz (fun z M1 => (z = -1) ∧ ∀ a : Int, M1 a = M a)) args s 0 0 (fun q => n0 ≤ q)) 0 0 M sz 0 [(0, gA n0 190), (1, gJ a), (2, gJ b)] []
  refine g_aload_n (n := 1) X 0 dX12_about_0 rfl rfl rfl ?_
  refine g_iload_n (n := 2) X 1 dX12_about_1 rfl rfl rfl ?_
  refine g_callVi (n := 5) (As := [gJ a]) (rest := []) (cs1 := 0) (ss1 := 0) X (c_X12_isPerson a (by omega) (by omega) f_190_1 f_191_1) okX12_isPerson kw_6_125 ⟨kw_6_127, kw_0_40⟩ ⟨rfl, rfl⟩ ⟨Nat.le_of_ble_eq_true rfl, Nat.le_of_ble_eq_true rfl⟩ rfl (by omega) (by omega) lay_190 rfl rfl (Nat.le_of_ble_eq_true rfl) ⟨Nat.le_of_ble_eq_true rfl, Nat.le_of_ble_eq_true rfl⟩ rfl rfl dX12_about_2 rfl (fun z1 M2 P3 => ?_)
  obtain ⟨rfl, rfl⟩ := P3
  refine g_if_eq (n := 8) (tgt := 18) X dX12_about_5 (by decide) (by omega) rfl (fun c4 => ?_) (fun c4 => by exfalso; omega)
  refine g_iconst (n := 19) X dX12_about_18 rfl ?_
  exact g_ireturn X hr dX12_about_19 (by exact ⟨by omega, fun a  => rfl⟩)
theorem dX12_hire_0 : decode cX12_hire 0 = .ok (.aload_n 0, 1) := by decide +kernel
theorem dX12_hire_1 : decode cX12_hire 1 = .ok (.iload_n 1, 1) := by decide +kernel
theorem dX12_hire_2 : decode cX12_hire 2 = .ok (.invokevirtual 76, 3) := by decide +kernel
theorem dX12_hire_5 : decode cX12_hire 5 = .ok (.ifCond .eq 10, 3) := by decide +kernel
theorem dX12_hire_15 : decode cX12_hire 15 = .ok (.iconst (-1), 1) := by decide +kernel
theorem dX12_hire_16 : decode cX12_hire 16 = .ok (.ireturn, 1) := by decide +kernel
set_option maxRecDepth 100000 in
set_option maxHeartbeats 4000000 in
theorem c_X12_hire {l : Launch} {n0 : Nat} {D : va_G} {cA : Nat → ClassId} {M : gM} (a b c d f g : Int) (r_a : -2147483648 ≤ a ∧ a ≤ 2147483647) (r_b : -2147483648 ≤ b ∧ b ≤ 2147483647) (r_c : -2147483648 ≤ c ∧ c ≤ 2147483647) (r_d : -2147483648 ≤ d ∧ d ≤ 2147483647) (r_f : f = 0 ∨ f = 1) (r_g : g = 0 ∨ g = 1) {sz : Nat} (hsz : 206 ≤ sz) (f_190_1 : M 190 1 = 192) (f_191_1 : M 191 1 = 0) : Met l yX12_hire (gWsOf yX12_hire cX12_hire 7 (Option.some Jvm.ClassFile.FieldType.int)) { frames := 2, cells := 0, slots := 0, locals := 49 } (gPc n0 D cA [gA n0 190, gJ a, gJ b, gJ c, gJ d, gJ f, gJ g] M sz) (gQi n0 D cA sz (fun z M1 => (z = -1) ∧ ∀ a : Int, M1 a = M a)) 0 0 (fun q => n0 ≤ q) := by
  refine gMet_of [gA n0 190, gJ a, gJ b, gJ c, gJ d, gJ f, gJ g] (by decide) (Nat.le_of_ble_eq_true rfl) ?_
  intro p e s m args below meth cd X hr hm
  have X : gCx p s m args meth cd n0 D cA "ParishUnionModel" cX12_hire 7 := X
  show G p l e ({ frames := 2, cells := 0, slots := 0, locals := 49 } : Room) s m args below meth cd n0 D cA 7 (MQ below (gQi n0 D cA sz (fun z M1 => (z = -1) ∧ ∀ a : Int, M1 a = M a)) args s 0 0 (fun q => n0 ≤ q)) 0 0 M sz 0 [(0, gA n0 190), (1, gJ a), (2, gJ b), (3, gJ c), (4, gJ d), (5, gJ f), (6, gJ g)] []
  refine g_aload_n (n := 1) X 0 dX12_hire_0 rfl rfl rfl ?_
  refine g_iload_n (n := 2) X 1 dX12_hire_1 rfl rfl rfl ?_
  refine g_callVi (n := 5) (As := [gJ a]) (rest := []) (cs1 := 0) (ss1 := 0) X (c_X12_isPerson a (by omega) (by omega) f_190_1 f_191_1) okX12_isPerson kw_6_125 ⟨kw_6_127, kw_0_40⟩ ⟨rfl, rfl⟩ ⟨Nat.le_of_ble_eq_true rfl, Nat.le_of_ble_eq_true rfl⟩ rfl (by omega) (by omega) lay_190 rfl rfl (Nat.le_of_ble_eq_true rfl) ⟨Nat.le_of_ble_eq_true rfl, Nat.le_of_ble_eq_true rfl⟩ rfl rfl dX12_hire_2 rfl (fun z1 M2 P3 => ?_)
  obtain ⟨rfl, rfl⟩ := P3
  refine g_if_eq (n := 8) (tgt := 15) X dX12_hire_5 (by decide) (by omega) rfl (fun c4 => ?_) (fun c4 => by exfalso; omega)
  refine g_iconst (n := 16) X dX12_hire_15 rfl ?_
  exact g_ireturn X hr dX12_hire_16 (by exact ⟨by omega, fun a  => rfl⟩)
theorem dX12_rated_0 : decode cX12_rated 0 = .ok (.aload_n 0, 1) := by decide +kernel
theorem dX12_rated_1 : decode cX12_rated 1 = .ok (.iload_n 1, 1) := by decide +kernel
theorem dX12_rated_2 : decode cX12_rated 2 = .ok (.invokevirtual 76, 3) := by decide +kernel
theorem dX12_rated_5 : decode cX12_rated 5 = .ok (.ifCond .eq 10, 3) := by decide +kernel
theorem dX12_rated_15 : decode cX12_rated 15 = .ok (.iconst (-1), 1) := by decide +kernel
theorem dX12_rated_16 : decode cX12_rated 16 = .ok (.ireturn, 1) := by decide +kernel
set_option maxRecDepth 100000 in
set_option maxHeartbeats 4000000 in
theorem c_X12_rated {l : Launch} {n0 : Nat} {D : va_G} {cA : Nat → ClassId} {M : gM} (a b c d f : Int) (r_a : -2147483648 ≤ a ∧ a ≤ 2147483647) (r_b : -2147483648 ≤ b ∧ b ≤ 2147483647) (r_c : -2147483648 ≤ c ∧ c ≤ 2147483647) (r_d : -2147483648 ≤ d ∧ d ≤ 2147483647) (r_f : f = 0 ∨ f = 1) {sz : Nat} (hsz : 206 ≤ sz) (f_190_1 : M 190 1 = 192) (f_191_1 : M 191 1 = 0) : Met l yX12_rated (gWsOf yX12_rated cX12_rated 6 (Option.some Jvm.ClassFile.FieldType.int)) { frames := 2, cells := 0, slots := 0, locals := 49 } (gPc n0 D cA [gA n0 190, gJ a, gJ b, gJ c, gJ d, gJ f] M sz) (gQi n0 D cA sz (fun z M1 => (z = -1) ∧ ∀ a : Int, M1 a = M a)) 0 0 (fun q => n0 ≤ q) := by
  refine gMet_of [gA n0 190, gJ a, gJ b, gJ c, gJ d, gJ f] (by decide) (Nat.le_of_ble_eq_true rfl) ?_
  intro p e s m args below meth cd X hr hm
  have X : gCx p s m args meth cd n0 D cA "ParishUnionModel" cX12_rated 6 := X
  show G p l e ({ frames := 2, cells := 0, slots := 0, locals := 49 } : Room) s m args below meth cd n0 D cA 6 (MQ below (gQi n0 D cA sz (fun z M1 => (z = -1) ∧ ∀ a : Int, M1 a = M a)) args s 0 0 (fun q => n0 ≤ q)) 0 0 M sz 0 [(0, gA n0 190), (1, gJ a), (2, gJ b), (3, gJ c), (4, gJ d), (5, gJ f)] []
  refine g_aload_n (n := 1) X 0 dX12_rated_0 rfl rfl rfl ?_
  refine g_iload_n (n := 2) X 1 dX12_rated_1 rfl rfl rfl ?_
  refine g_callVi (n := 5) (As := [gJ a]) (rest := []) (cs1 := 0) (ss1 := 0) X (c_X12_isPerson a (by omega) (by omega) f_190_1 f_191_1) okX12_isPerson kw_6_125 ⟨kw_6_127, kw_0_40⟩ ⟨rfl, rfl⟩ ⟨Nat.le_of_ble_eq_true rfl, Nat.le_of_ble_eq_true rfl⟩ rfl (by omega) (by omega) lay_190 rfl rfl (Nat.le_of_ble_eq_true rfl) ⟨Nat.le_of_ble_eq_true rfl, Nat.le_of_ble_eq_true rfl⟩ rfl rfl dX12_rated_2 rfl (fun z1 M2 P3 => ?_)
  obtain ⟨rfl, rfl⟩ := P3
  refine g_if_eq (n := 8) (tgt := 15) X dX12_rated_5 (by decide) (by omega) rfl (fun c4 => ?_) (fun c4 => by exfalso; omega)
  refine g_iconst (n := 16) X dX12_rated_15 rfl ?_
  exact g_ireturn X hr dX12_rated_16 (by exact ⟨by omega, fun a  => rfl⟩)
theorem dX12_wed_0 : decode cX12_wed 0 = .ok (.aload_n 0, 1) := by decide +kernel
theorem dX12_wed_1 : decode cX12_wed 1 = .ok (.iload_n 1, 1) := by decide +kernel
theorem dX12_wed_2 : decode cX12_wed 2 = .ok (.invokevirtual 76, 3) := by decide +kernel
theorem dX12_wed_5 : decode cX12_wed 5 = .ok (.ifCond .eq 11, 3) := by decide +kernel
theorem dX12_wed_16 : decode cX12_wed 16 = .ok (.iconst (-1), 1) := by decide +kernel
theorem dX12_wed_17 : decode cX12_wed 17 = .ok (.ireturn, 1) := by decide +kernel
set_option maxRecDepth 100000 in
set_option maxHeartbeats 4000000 in
theorem c_X12_wed {l : Launch} {n0 : Nat} {D : va_G} {cA : Nat → ClassId} {M : gM} (a b c f : Int) (r_a : -2147483648 ≤ a ∧ a ≤ 2147483647) (r_b : -2147483648 ≤ b ∧ b ≤ 2147483647) (r_c : -2147483648 ≤ c ∧ c ≤ 2147483647) (r_f : f = 0 ∨ f = 1) {sz : Nat} (hsz : 206 ≤ sz) (f_190_1 : M 190 1 = 192) (f_191_1 : M 191 1 = 0) : Met l yX12_wed (gWsOf yX12_wed cX12_wed 5 (Option.some Jvm.ClassFile.FieldType.int)) { frames := 2, cells := 0, slots := 0, locals := 49 } (gPc n0 D cA [gA n0 190, gJ a, gJ b, gJ c, gJ f] M sz) (gQi n0 D cA sz (fun z M1 => (z = -1) ∧ ∀ a : Int, M1 a = M a)) 0 0 (fun q => n0 ≤ q) := by
  refine gMet_of [gA n0 190, gJ a, gJ b, gJ c, gJ f] (by decide) (Nat.le_of_ble_eq_true rfl) ?_
  intro p e s m args below meth cd X hr hm
  have X : gCx p s m args meth cd n0 D cA "ParishUnionModel" cX12_wed 5 := X
  show G p l e ({ frames := 2, cells := 0, slots := 0, locals := 49 } : Room) s m args below meth cd n0 D cA 5 (MQ below (gQi n0 D cA sz (fun z M1 => (z = -1) ∧ ∀ a : Int, M1 a = M a)) args s 0 0 (fun q => n0 ≤ q)) 0 0 M sz 0 [(0, gA n0 190), (1, gJ a), (2, gJ b), (3, gJ c), (4, gJ f)] []
  refine g_aload_n (n := 1) X 0 dX12_wed_0 rfl rfl rfl ?_
  refine g_iload_n (n := 2) X 1 dX12_wed_1 rfl rfl rfl ?_
  refine g_callVi (n := 5) (As := [gJ a]) (rest := []) (cs1 := 0) (ss1 := 0) X (c_X12_isPerson a (by omega) (by omega) f_190_1 f_191_1) okX12_isPerson kw_6_125 ⟨kw_6_127, kw_0_40⟩ ⟨rfl, rfl⟩ ⟨Nat.le_of_ble_eq_true rfl, Nat.le_of_ble_eq_true rfl⟩ rfl (by omega) (by omega) lay_190 rfl rfl (Nat.le_of_ble_eq_true rfl) ⟨Nat.le_of_ble_eq_true rfl, Nat.le_of_ble_eq_true rfl⟩ rfl rfl dX12_wed_2 rfl (fun z1 M2 P3 => ?_)
  obtain ⟨rfl, rfl⟩ := P3
  refine g_if_eq (n := 8) (tgt := 16) X dX12_wed_5 (by decide) (by omega) rfl (fun c4 => ?_) (fun c4 => by exfalso; omega)
  refine g_iconst (n := 17) X dX12_wed_16 rfl ?_
  exact g_ireturn X hr dX12_wed_17 (by exact ⟨by omega, fun a  => rfl⟩)
theorem dX12_proof_0 : decode cX12_proof 0 = .ok (.iload_n 1, 1) := by decide +kernel
theorem dX12_proof_1 : decode cX12_proof 1 = .ok (.iconst 0, 1) := by decide +kernel
theorem dX12_proof_2 : decode cX12_proof 2 = .ok (.aload_n 0, 1) := by decide +kernel
theorem dX12_proof_3 : decode cX12_proof 3 = .ok (.getfield 7, 3) := by decide +kernel
theorem dX12_proof_6 : decode cX12_proof 6 = .ok (.iconst 2, 1) := by decide +kernel
theorem dX12_proof_7 : decode cX12_proof 7 = .ok (.iaload, 1) := by decide +kernel
theorem dX12_proof_8 : decode cX12_proof 8 = .ok (.iconst 1, 1) := by decide +kernel
theorem dX12_proof_9 : decode cX12_proof 9 = .ok (.isub, 1) := by decide +kernel
theorem dX12_proof_10 : decode cX12_proof 10 = .ok (.invokestatic 64, 3) := by decide +kernel
theorem dX12_proof_13 : decode cX12_proof 13 = .ok (.ifCond .ne 5, 3) := by decide +kernel
theorem dX12_proof_16 : decode cX12_proof 16 = .ok (.iconst (-1), 1) := by decide +kernel
theorem dX12_proof_17 : decode cX12_proof 17 = .ok (.ireturn, 1) := by decide +kernel
set_option maxRecDepth 100000 in
set_option maxHeartbeats 4000000 in
theorem c_X12_proof {l : Launch} {n0 : Nat} {D : va_G} {cA : Nat → ClassId} {M : gM} (a b : Int) (r_a : -2147483648 ≤ a ∧ a ≤ 2147483647) (r_b : b = 0 ∨ b = 1) {sz : Nat} (hsz : 206 ≤ sz) (f_190_1 : M 190 1 = 192) (f_191_2 : M 191 2 = 0) : Met l yX12_proof (gWsOf yX12_proof cX12_proof 5 (Option.some Jvm.ClassFile.FieldType.int)) { frames := 1, cells := 0, slots := 0, locals := 22 } (gPc n0 D cA [gA n0 190, gJ a, gJ b] M sz) (gQi n0 D cA sz (fun z M1 => (z = -1) ∧ ∀ a : Int, M1 a = M a)) 0 0 (fun q => n0 ≤ q) := by
  refine gMet_of [gA n0 190, gJ a, gJ b] (by decide) (Nat.le_of_ble_eq_true rfl) ?_
  intro p e s m args below meth cd X hr hm
  have X : gCx p s m args meth cd n0 D cA "ParishUnionModel" cX12_proof 5 := X
  show G p l e ({ frames := 1, cells := 0, slots := 0, locals := 22 } : Room) s m args below meth cd n0 D cA 5 (MQ below (gQi n0 D cA sz (fun z M1 => (z = -1) ∧ ∀ a : Int, M1 a = M a)) args s 0 0 (fun q => n0 ≤ q)) 0 0 M sz 0 [(0, gA n0 190), (1, gJ a), (2, gJ b)] []
  refine g_iload_n (n := 1) X 1 dX12_proof_0 rfl rfl rfl ?_
  refine g_iconst (n := 2) X dX12_proof_1 rfl ?_
  refine g_aload_n (n := 3) X 0 dX12_proof_2 rfl rfl rfl ?_
  refine gg_12_1 (n := 6) (z := 191) X (by omega) (by omega) lay_190 kw_6_27 dX12_proof_3 rfl f_190_1 (by omega) ?_
  refine g_iconst (n := 7) X dX12_proof_6 rfl ?_
  refine g_iald (n := 8) X (by omega) (by omega) lay_191 (by omega) (by omega) (by omega) dX12_proof_7 rfl ?_
  rw [show M 191 2 = 0 from f_191_2]
  refine g_iconst (n := 9) X dX12_proof_8 rfl ?_
  refine g_isub (n := 10) (z := (-1)) X dX12_proof_9 rfl rfl ?_
  refine g_callSi (n := 13) (As := [gJ a, gJ 0, gJ (-1)]) (rest := []) (cs1 := 0) (ss1 := 0) X (c_X12_in a 0 (-1) (by omega) (by omega) (by omega) (by omega)) okX12_in kw_6_106 kw_6_107 ⟨rfl, rfl⟩ ⟨Nat.le_of_ble_eq_true rfl, Nat.le_of_ble_eq_true rfl⟩ rfl rfl (Nat.le_of_ble_eq_true rfl) ⟨Nat.le_of_ble_eq_true rfl, Nat.le_of_ble_eq_true rfl⟩ rfl rfl dX12_proof_10 rfl (fun z1 M2 P3 => ?_)
  obtain ⟨rfl, P3⟩ := P3
  obtain rfl : z1 = 0 := by omega
  refine g_if_ne (n := 16) (tgt := 18) X dX12_proof_13 (by decide) (by omega) rfl (fun c4 => by exfalso; omega) (fun c4 => ?_)
  refine g_iconst (n := 17) X dX12_proof_16 rfl ?_
  exact g_ireturn X hr dX12_proof_17 (by exact ⟨by omega, fun a  => rfl⟩)
theorem dX12_right_0 : decode cX12_right 0 = .ok (.iload_n 1, 1) := by decide +kernel
theorem dX12_right_1 : decode cX12_right 1 = .ok (.iconst 0, 1) := by decide +kernel
theorem dX12_right_2 : decode cX12_right 2 = .ok (.aload_n 0, 1) := by decide +kernel
theorem dX12_right_3 : decode cX12_right 3 = .ok (.getfield 7, 3) := by decide +kernel
theorem dX12_right_6 : decode cX12_right 6 = .ok (.iconst 2, 1) := by decide +kernel
theorem dX12_right_7 : decode cX12_right 7 = .ok (.iaload, 1) := by decide +kernel
theorem dX12_right_8 : decode cX12_right 8 = .ok (.iconst 1, 1) := by decide +kernel
theorem dX12_right_9 : decode cX12_right 9 = .ok (.isub, 1) := by decide +kernel
theorem dX12_right_10 : decode cX12_right 10 = .ok (.invokestatic 64, 3) := by decide +kernel
theorem dX12_right_13 : decode cX12_right 13 = .ok (.ifCond .ne 5, 3) := by decide +kernel
theorem dX12_right_16 : decode cX12_right 16 = .ok (.iconst (-1), 1) := by decide +kernel
theorem dX12_right_17 : decode cX12_right 17 = .ok (.ireturn, 1) := by decide +kernel
set_option maxRecDepth 100000 in
set_option maxHeartbeats 4000000 in
theorem c_X12_right {l : Launch} {n0 : Nat} {D : va_G} {cA : Nat → ClassId} {M : gM} (a b : Int) (r_a : -2147483648 ≤ a ∧ a ≤ 2147483647) (r_b : -2147483648 ≤ b ∧ b ≤ 2147483647) {sz : Nat} (hsz : 206 ≤ sz) (f_190_1 : M 190 1 = 192) (f_191_2 : M 191 2 = 0) : Met l yX12_right (gWsOf yX12_right cX12_right 3 (Option.some Jvm.ClassFile.FieldType.int)) { frames := 1, cells := 0, slots := 0, locals := 24 } (gPc n0 D cA [gA n0 190, gJ a, gJ b] M sz) (gQi n0 D cA sz (fun z M1 => (z = -1) ∧ ∀ a : Int, M1 a = M a)) 0 0 (fun q => n0 ≤ q) := by
  refine gMet_of [gA n0 190, gJ a, gJ b] (by decide) (Nat.le_of_ble_eq_true rfl) ?_
  intro p e s m args below meth cd X hr hm
  have X : gCx p s m args meth cd n0 D cA "ParishUnionModel" cX12_right 3 := X
  show G p l e ({ frames := 1, cells := 0, slots := 0, locals := 24 } : Room) s m args below meth cd n0 D cA 3 (MQ below (gQi n0 D cA sz (fun z M1 => (z = -1) ∧ ∀ a : Int, M1 a = M a)) args s 0 0 (fun q => n0 ≤ q)) 0 0 M sz 0 [(0, gA n0 190), (1, gJ a), (2, gJ b)] []
  refine g_iload_n (n := 1) X 1 dX12_right_0 rfl rfl rfl ?_
  refine g_iconst (n := 2) X dX12_right_1 rfl ?_
  refine g_aload_n (n := 3) X 0 dX12_right_2 rfl rfl rfl ?_
  refine gg_12_1 (n := 6) (z := 191) X (by omega) (by omega) lay_190 kw_6_27 dX12_right_3 rfl f_190_1 (by omega) ?_
  refine g_iconst (n := 7) X dX12_right_6 rfl ?_
  refine g_iald (n := 8) X (by omega) (by omega) lay_191 (by omega) (by omega) (by omega) dX12_right_7 rfl ?_
  rw [show M 191 2 = 0 from f_191_2]
  refine g_iconst (n := 9) X dX12_right_8 rfl ?_
  refine g_isub (n := 10) (z := (-1)) X dX12_right_9 rfl rfl ?_
  refine g_callSi (n := 13) (As := [gJ a, gJ 0, gJ (-1)]) (rest := []) (cs1 := 0) (ss1 := 0) X (c_X12_in a 0 (-1) (by omega) (by omega) (by omega) (by omega)) okX12_in kw_6_106 kw_6_107 ⟨rfl, rfl⟩ ⟨Nat.le_of_ble_eq_true rfl, Nat.le_of_ble_eq_true rfl⟩ rfl rfl (Nat.le_of_ble_eq_true rfl) ⟨Nat.le_of_ble_eq_true rfl, Nat.le_of_ble_eq_true rfl⟩ rfl rfl dX12_right_10 rfl (fun z1 M2 P3 => ?_)
  obtain ⟨rfl, P3⟩ := P3
  obtain rfl : z1 = 0 := by omega
  refine g_if_ne (n := 16) (tgt := 18) X dX12_right_13 (by decide) (by omega) rfl (fun c4 => by exfalso; omega) (fun c4 => ?_)
  refine g_iconst (n := 17) X dX12_right_16 rfl ?_
  exact g_ireturn X hr dX12_right_17 (by exact ⟨by omega, fun a  => rfl⟩)
theorem dX12_taken_0 : decode cX12_taken 0 = .ok (.iload_n 1, 1) := by decide +kernel
theorem dX12_taken_1 : decode cX12_taken 1 = .ok (.iconst 0, 1) := by decide +kernel
theorem dX12_taken_2 : decode cX12_taken 2 = .ok (.aload_n 0, 1) := by decide +kernel
theorem dX12_taken_3 : decode cX12_taken 3 = .ok (.getfield 7, 3) := by decide +kernel
theorem dX12_taken_6 : decode cX12_taken 6 = .ok (.iconst 2, 1) := by decide +kernel
theorem dX12_taken_7 : decode cX12_taken 7 = .ok (.iaload, 1) := by decide +kernel
theorem dX12_taken_8 : decode cX12_taken 8 = .ok (.iconst 1, 1) := by decide +kernel
theorem dX12_taken_9 : decode cX12_taken 9 = .ok (.isub, 1) := by decide +kernel
theorem dX12_taken_10 : decode cX12_taken 10 = .ok (.invokestatic 64, 3) := by decide +kernel
theorem dX12_taken_13 : decode cX12_taken 13 = .ok (.ifCond .eq 12, 3) := by decide +kernel
theorem dX12_taken_25 : decode cX12_taken 25 = .ok (.iconst (-1), 1) := by decide +kernel
theorem dX12_taken_26 : decode cX12_taken 26 = .ok (.ireturn, 1) := by decide +kernel
set_option maxRecDepth 100000 in
set_option maxHeartbeats 4000000 in
theorem c_X12_taken {l : Launch} {n0 : Nat} {D : va_G} {cA : Nat → ClassId} {M : gM} (a b : Int) (r_a : -2147483648 ≤ a ∧ a ≤ 2147483647) (r_b : -2147483648 ≤ b ∧ b ≤ 2147483647) {sz : Nat} (hsz : 206 ≤ sz) (f_190_1 : M 190 1 = 192) (f_191_2 : M 191 2 = 0) : Met l yX12_taken (gWsOf yX12_taken cX12_taken 4 (Option.some Jvm.ClassFile.FieldType.int)) { frames := 1, cells := 0, slots := 0, locals := 22 } (gPc n0 D cA [gA n0 190, gJ a, gJ b] M sz) (gQi n0 D cA sz (fun z M1 => (z = -1) ∧ ∀ a : Int, M1 a = M a)) 0 0 (fun q => n0 ≤ q) := by
  refine gMet_of [gA n0 190, gJ a, gJ b] (by decide) (Nat.le_of_ble_eq_true rfl) ?_
  intro p e s m args below meth cd X hr hm
  have X : gCx p s m args meth cd n0 D cA "ParishUnionModel" cX12_taken 4 := X
  show G p l e ({ frames := 1, cells := 0, slots := 0, locals := 22 } : Room) s m args below meth cd n0 D cA 4 (MQ below (gQi n0 D cA sz (fun z M1 => (z = -1) ∧ ∀ a : Int, M1 a = M a)) args s 0 0 (fun q => n0 ≤ q)) 0 0 M sz 0 [(0, gA n0 190), (1, gJ a), (2, gJ b)] []
  refine g_iload_n (n := 1) X 1 dX12_taken_0 rfl rfl rfl ?_
  refine g_iconst (n := 2) X dX12_taken_1 rfl ?_
  refine g_aload_n (n := 3) X 0 dX12_taken_2 rfl rfl rfl ?_
  refine gg_12_1 (n := 6) (z := 191) X (by omega) (by omega) lay_190 kw_6_27 dX12_taken_3 rfl f_190_1 (by omega) ?_
  refine g_iconst (n := 7) X dX12_taken_6 rfl ?_
  refine g_iald (n := 8) X (by omega) (by omega) lay_191 (by omega) (by omega) (by omega) dX12_taken_7 rfl ?_
  rw [show M 191 2 = 0 from f_191_2]
  refine g_iconst (n := 9) X dX12_taken_8 rfl ?_
  refine g_isub (n := 10) (z := (-1)) X dX12_taken_9 rfl rfl ?_
  refine g_callSi (n := 13) (As := [gJ a, gJ 0, gJ (-1)]) (rest := []) (cs1 := 0) (ss1 := 0) X (c_X12_in a 0 (-1) (by omega) (by omega) (by omega) (by omega)) okX12_in kw_6_106 kw_6_107 ⟨rfl, rfl⟩ ⟨Nat.le_of_ble_eq_true rfl, Nat.le_of_ble_eq_true rfl⟩ rfl rfl (Nat.le_of_ble_eq_true rfl) ⟨Nat.le_of_ble_eq_true rfl, Nat.le_of_ble_eq_true rfl⟩ rfl rfl dX12_taken_10 rfl (fun z1 M2 P3 => ?_)
  obtain ⟨rfl, P3⟩ := P3
  obtain rfl : z1 = 0 := by omega
  refine g_if_eq (n := 16) (tgt := 25) X dX12_taken_13 (by decide) (by omega) rfl (fun c4 => ?_) (fun c4 => by exfalso; omega)
  refine g_iconst (n := 26) X dX12_taken_25 rfl ?_
  exact g_ireturn X hr dX12_taken_26 (by exact ⟨by omega, fun a  => rfl⟩)
theorem dX12_settle_0 : decode cX12_settle 0 = .ok (.aload_n 0, 1) := by decide +kernel
theorem dX12_settle_1 : decode cX12_settle 1 = .ok (.iload_n 1, 1) := by decide +kernel
theorem dX12_settle_2 : decode cX12_settle 2 = .ok (.invokevirtual 76, 3) := by decide +kernel
theorem dX12_settle_5 : decode cX12_settle 5 = .ok (.ifCond .eq 21, 3) := by decide +kernel
theorem dX12_settle_26 : decode cX12_settle 26 = .ok (.iconst (-1), 1) := by decide +kernel
theorem dX12_settle_27 : decode cX12_settle 27 = .ok (.ireturn, 1) := by decide +kernel
set_option maxRecDepth 100000 in
set_option maxHeartbeats 4000000 in
theorem c_X12_settle {l : Launch} {n0 : Nat} {D : va_G} {cA : Nat → ClassId} {M : gM} (a b c d : Int) (r_a : -2147483648 ≤ a ∧ a ≤ 2147483647) (r_b : -2147483648 ≤ b ∧ b ≤ 2147483647) (r_c : -2147483648 ≤ c ∧ c ≤ 2147483647) (r_d : -2147483648 ≤ d ∧ d ≤ 2147483647) {sz : Nat} (hsz : 206 ≤ sz) (f_190_1 : M 190 1 = 192) (f_191_1 : M 191 1 = 0) : Met l yX12_settle (gWsOf yX12_settle cX12_settle 5 (Option.some Jvm.ClassFile.FieldType.int)) { frames := 62, cells := 0, slots := 0, locals := 2450 } (gPc n0 D cA [gA n0 190, gJ a, gJ b, gJ c, gJ d] M sz) (gQi n0 D cA sz (fun z M1 => (z = -1) ∧ ∀ a : Int, M1 a = M a)) 0 0 (fun q => n0 ≤ q) := by
  refine gMet_of [gA n0 190, gJ a, gJ b, gJ c, gJ d] (by decide) (Nat.le_of_ble_eq_true rfl) ?_
  intro p e s m args below meth cd X hr hm
  have X : gCx p s m args meth cd n0 D cA "ParishUnionModel" cX12_settle 5 := X
  show G p l e ({ frames := 62, cells := 0, slots := 0, locals := 2450 } : Room) s m args below meth cd n0 D cA 5 (MQ below (gQi n0 D cA sz (fun z M1 => (z = -1) ∧ ∀ a : Int, M1 a = M a)) args s 0 0 (fun q => n0 ≤ q)) 0 0 M sz 0 [(0, gA n0 190), (1, gJ a), (2, gJ b), (3, gJ c), (4, gJ d)] []
  refine g_aload_n (n := 1) X 0 dX12_settle_0 rfl rfl rfl ?_
  refine g_iload_n (n := 2) X 1 dX12_settle_1 rfl rfl rfl ?_
  refine g_callVi (n := 5) (As := [gJ a]) (rest := []) (cs1 := 0) (ss1 := 0) X (c_X12_isPerson a (by omega) (by omega) f_190_1 f_191_1) okX12_isPerson kw_6_125 ⟨kw_6_127, kw_0_40⟩ ⟨rfl, rfl⟩ ⟨Nat.le_of_ble_eq_true rfl, Nat.le_of_ble_eq_true rfl⟩ rfl (by omega) (by omega) lay_190 rfl rfl (Nat.le_of_ble_eq_true rfl) ⟨Nat.le_of_ble_eq_true rfl, Nat.le_of_ble_eq_true rfl⟩ rfl rfl dX12_settle_2 rfl (fun z1 M2 P3 => ?_)
  obtain ⟨rfl, rfl⟩ := P3
  refine g_if_eq (n := 8) (tgt := 26) X dX12_settle_5 (by decide) (by omega) rfl (fun c4 => ?_) (fun c4 => by exfalso; omega)
  refine g_iconst (n := 27) X dX12_settle_26 rfl ?_
  exact g_ireturn X hr dX12_settle_27 (by exact ⟨by omega, fun a  => rfl⟩)
theorem dX12_maybe_0 : decode cX12_maybe 0 = .ok (.aload_n 0, 1) := by decide +kernel
theorem dX12_maybe_1 : decode cX12_maybe 1 = .ok (.iload_n 1, 1) := by decide +kernel
theorem dX12_maybe_2 : decode cX12_maybe 2 = .ok (.invokevirtual 76, 3) := by decide +kernel
theorem dX12_maybe_5 : decode cX12_maybe 5 = .ok (.ifCond .eq 21, 3) := by decide +kernel
theorem dX12_maybe_26 : decode cX12_maybe 26 = .ok (.iconst (-1), 1) := by decide +kernel
theorem dX12_maybe_27 : decode cX12_maybe 27 = .ok (.ireturn, 1) := by decide +kernel
set_option maxRecDepth 100000 in
set_option maxHeartbeats 4000000 in
theorem c_X12_maybe {l : Launch} {n0 : Nat} {D : va_G} {cA : Nat → ClassId} {M : gM} (a b c d : Int) (r_a : -2147483648 ≤ a ∧ a ≤ 2147483647) (r_b : -2147483648 ≤ b ∧ b ≤ 2147483647) (r_c : -2147483648 ≤ c ∧ c ≤ 2147483647) (r_d : -2147483648 ≤ d ∧ d ≤ 2147483647) {sz : Nat} (hsz : 206 ≤ sz) (f_190_1 : M 190 1 = 192) (f_191_1 : M 191 1 = 0) : Met l yX12_maybe (gWsOf yX12_maybe cX12_maybe 13 (Option.some Jvm.ClassFile.FieldType.int)) { frames := 62, cells := 0, slots := 0, locals := 2454 } (gPc n0 D cA [gA n0 190, gJ a, gJ b, gJ c, gJ d] M sz) (gQi n0 D cA sz (fun z M1 => (z = -1) ∧ ∀ a : Int, M1 a = M a)) 0 0 (fun q => n0 ≤ q) := by
  refine gMet_of [gA n0 190, gJ a, gJ b, gJ c, gJ d] (by decide) (Nat.le_of_ble_eq_true rfl) ?_
  intro p e s m args below meth cd X hr hm
  have X : gCx p s m args meth cd n0 D cA "ParishUnionModel" cX12_maybe 13 := X
  show G p l e ({ frames := 62, cells := 0, slots := 0, locals := 2454 } : Room) s m args below meth cd n0 D cA 13 (MQ below (gQi n0 D cA sz (fun z M1 => (z = -1) ∧ ∀ a : Int, M1 a = M a)) args s 0 0 (fun q => n0 ≤ q)) 0 0 M sz 0 [(0, gA n0 190), (1, gJ a), (2, gJ b), (3, gJ c), (4, gJ d)] []
  refine g_aload_n (n := 1) X 0 dX12_maybe_0 rfl rfl rfl ?_
  refine g_iload_n (n := 2) X 1 dX12_maybe_1 rfl rfl rfl ?_
  refine g_callVi (n := 5) (As := [gJ a]) (rest := []) (cs1 := 0) (ss1 := 0) X (c_X12_isPerson a (by omega) (by omega) f_190_1 f_191_1) okX12_isPerson kw_6_125 ⟨kw_6_127, kw_0_40⟩ ⟨rfl, rfl⟩ ⟨Nat.le_of_ble_eq_true rfl, Nat.le_of_ble_eq_true rfl⟩ rfl (by omega) (by omega) lay_190 rfl rfl (Nat.le_of_ble_eq_true rfl) ⟨Nat.le_of_ble_eq_true rfl, Nat.le_of_ble_eq_true rfl⟩ rfl rfl dX12_maybe_2 rfl (fun z1 M2 P3 => ?_)
  obtain ⟨rfl, rfl⟩ := P3
  refine g_if_eq (n := 8) (tgt := 26) X dX12_maybe_5 (by decide) (by omega) rfl (fun c4 => ?_) (fun c4 => by exfalso; omega)
  refine g_iconst (n := 27) X dX12_maybe_26 rfl ?_
  exact g_ireturn X hr dX12_maybe_27 (by exact ⟨by omega, fun a  => rfl⟩)
theorem dX12_offer_0 : decode cX12_offer 0 = .ok (.aload_n 0, 1) := by decide +kernel
theorem dX12_offer_1 : decode cX12_offer 1 = .ok (.iload_n 1, 1) := by decide +kernel
theorem dX12_offer_2 : decode cX12_offer 2 = .ok (.invokevirtual 76, 3) := by decide +kernel
theorem dX12_offer_5 : decode cX12_offer 5 = .ok (.ifCond .eq 12, 3) := by decide +kernel
theorem dX12_offer_17 : decode cX12_offer 17 = .ok (.iconst (-1), 1) := by decide +kernel
theorem dX12_offer_18 : decode cX12_offer 18 = .ok (.ireturn, 1) := by decide +kernel
set_option maxRecDepth 100000 in
set_option maxHeartbeats 4000000 in
theorem c_X12_offer {l : Launch} {n0 : Nat} {D : va_G} {cA : Nat → ClassId} {M : gM} (a b : Int) (r_a : -2147483648 ≤ a ∧ a ≤ 2147483647) (r_b : -2147483648 ≤ b ∧ b ≤ 2147483647) {sz : Nat} (hsz : 206 ≤ sz) (f_190_1 : M 190 1 = 192) (f_191_1 : M 191 1 = 0) : Met l yX12_offer (gWsOf yX12_offer cX12_offer 4 (Option.some Jvm.ClassFile.FieldType.int)) { frames := 141, cells := 0, slots := 0, locals := 5968 } (gPc n0 D cA [gA n0 190, gJ a, gJ b] M sz) (gQi n0 D cA sz (fun z M1 => (z = -1) ∧ ∀ a : Int, M1 a = M a)) 0 0 (fun q => n0 ≤ q) := by
  refine gMet_of [gA n0 190, gJ a, gJ b] (by decide) (Nat.le_of_ble_eq_true rfl) ?_
  intro p e s m args below meth cd X hr hm
  have X : gCx p s m args meth cd n0 D cA "ParishUnionModel" cX12_offer 4 := X
  show G p l e ({ frames := 141, cells := 0, slots := 0, locals := 5968 } : Room) s m args below meth cd n0 D cA 4 (MQ below (gQi n0 D cA sz (fun z M1 => (z = -1) ∧ ∀ a : Int, M1 a = M a)) args s 0 0 (fun q => n0 ≤ q)) 0 0 M sz 0 [(0, gA n0 190), (1, gJ a), (2, gJ b)] []
  refine g_aload_n (n := 1) X 0 dX12_offer_0 rfl rfl rfl ?_
  refine g_iload_n (n := 2) X 1 dX12_offer_1 rfl rfl rfl ?_
  refine g_callVi (n := 5) (As := [gJ a]) (rest := []) (cs1 := 0) (ss1 := 0) X (c_X12_isPerson a (by omega) (by omega) f_190_1 f_191_1) okX12_isPerson kw_6_125 ⟨kw_6_127, kw_0_40⟩ ⟨rfl, rfl⟩ ⟨Nat.le_of_ble_eq_true rfl, Nat.le_of_ble_eq_true rfl⟩ rfl (by omega) (by omega) lay_190 rfl rfl (Nat.le_of_ble_eq_true rfl) ⟨Nat.le_of_ble_eq_true rfl, Nat.le_of_ble_eq_true rfl⟩ rfl rfl dX12_offer_2 rfl (fun z1 M2 P3 => ?_)
  obtain ⟨rfl, rfl⟩ := P3
  refine g_if_eq (n := 8) (tgt := 17) X dX12_offer_5 (by decide) (by omega) rfl (fun c4 => ?_) (fun c4 => by exfalso; omega)
  refine g_iconst (n := 18) X dX12_offer_17 rfl ?_
  exact g_ireturn X hr dX12_offer_18 (by exact ⟨by omega, fun a  => rfl⟩)
theorem dX12_order_0 : decode cX12_order 0 = .ok (.aload_n 0, 1) := by decide +kernel
theorem dX12_order_1 : decode cX12_order 1 = .ok (.iload_n 1, 1) := by decide +kernel
theorem dX12_order_2 : decode cX12_order 2 = .ok (.invokevirtual 76, 3) := by decide +kernel
theorem dX12_order_5 : decode cX12_order 5 = .ok (.ifCond .eq 10, 3) := by decide +kernel
theorem dX12_order_15 : decode cX12_order 15 = .ok (.iconst (-1), 1) := by decide +kernel
theorem dX12_order_16 : decode cX12_order 16 = .ok (.ireturn, 1) := by decide +kernel
set_option maxRecDepth 100000 in
set_option maxHeartbeats 4000000 in
theorem c_X12_order {l : Launch} {n0 : Nat} {D : va_G} {cA : Nat → ClassId} {M : gM} (a b : Int) (r_a : -2147483648 ≤ a ∧ a ≤ 2147483647) (r_b : -2147483648 ≤ b ∧ b ≤ 2147483647) {sz : Nat} (hsz : 206 ≤ sz) (f_190_1 : M 190 1 = 192) (f_191_1 : M 191 1 = 0) : Met l yX12_order (gWsOf yX12_order cX12_order 5 (Option.some Jvm.ClassFile.FieldType.int)) { frames := 2, cells := 0, slots := 0, locals := 43 } (gPc n0 D cA [gA n0 190, gJ a, gJ b] M sz) (gQi n0 D cA sz (fun z M1 => (z = -1) ∧ ∀ a : Int, M1 a = M a)) 0 0 (fun q => n0 ≤ q) := by
  refine gMet_of [gA n0 190, gJ a, gJ b] (by decide) (Nat.le_of_ble_eq_true rfl) ?_
  intro p e s m args below meth cd X hr hm
  have X : gCx p s m args meth cd n0 D cA "ParishUnionModel" cX12_order 5 := X
  show G p l e ({ frames := 2, cells := 0, slots := 0, locals := 43 } : Room) s m args below meth cd n0 D cA 5 (MQ below (gQi n0 D cA sz (fun z M1 => (z = -1) ∧ ∀ a : Int, M1 a = M a)) args s 0 0 (fun q => n0 ≤ q)) 0 0 M sz 0 [(0, gA n0 190), (1, gJ a), (2, gJ b)] []
  refine g_aload_n (n := 1) X 0 dX12_order_0 rfl rfl rfl ?_
  refine g_iload_n (n := 2) X 1 dX12_order_1 rfl rfl rfl ?_
  refine g_callVi (n := 5) (As := [gJ a]) (rest := []) (cs1 := 0) (ss1 := 0) X (c_X12_isPerson a (by omega) (by omega) f_190_1 f_191_1) okX12_isPerson kw_6_125 ⟨kw_6_127, kw_0_40⟩ ⟨rfl, rfl⟩ ⟨Nat.le_of_ble_eq_true rfl, Nat.le_of_ble_eq_true rfl⟩ rfl (by omega) (by omega) lay_190 rfl rfl (Nat.le_of_ble_eq_true rfl) ⟨Nat.le_of_ble_eq_true rfl, Nat.le_of_ble_eq_true rfl⟩ rfl rfl dX12_order_2 rfl (fun z1 M2 P3 => ?_)
  obtain ⟨rfl, rfl⟩ := P3
  refine g_if_eq (n := 8) (tgt := 15) X dX12_order_5 (by decide) (by omega) rfl (fun c4 => ?_) (fun c4 => by exfalso; omega)
  refine g_iconst (n := 16) X dX12_order_15 rfl ?_
  exact g_ireturn X hr dX12_order_16 (by exact ⟨by omega, fun a  => rfl⟩)
theorem dX12_appeal_0 : decode cX12_appeal 0 = .ok (.aload_n 0, 1) := by decide +kernel
theorem dX12_appeal_1 : decode cX12_appeal 1 = .ok (.iload_n 1, 1) := by decide +kernel
theorem dX12_appeal_2 : decode cX12_appeal 2 = .ok (.invokevirtual 248, 3) := by decide +kernel
theorem kw_7_102 : (Jvm.Cond.methodLink "ParishUnionModel" (248 : Nat) ({ cls := "ParishUnionModel", name := "isOrder", desc := "(I)Z" } : Jvm.MethodName)) ∈ gT := gT_of (tb_7 _ (List.mem_of_getElem? (i := 102) rfl)) rfl
theorem kw_7_105 : (Jvm.Cond.code ({ cls := "ParishUnionModel", name := "isOrder", desc := "(I)Z" } : Jvm.MethodName) prog_14_method_62_code (2 : Nat) (Option.some Jvm.ClassFile.FieldType.boolean)) ∈ gT := gT_of (tb_7 _ (List.mem_of_getElem? (i := 105) rfl)) rfl
theorem okX12_isOrder : gQok yX12_isOrder cX12_isOrder 2 (Option.some Jvm.ClassFile.FieldType.boolean) 1 := ⟨kw_7_105, kw_1_13, by decide +kernel, by decide +kernel, by decide +kernel⟩
theorem kw_7_104 : (Jvm.Cond.instanceMethod ({ cls := "ParishUnionModel", name := "isOrder", desc := "(I)Z" } : Jvm.MethodName)) ∈ gT := gT_of (tb_7 _ (List.mem_of_getElem? (i := 104) rfl)) rfl
theorem kw_0_73 : (Jvm.Cond.selects "ParishUnionModel" ({ cls := "ParishUnionModel", name := "isOrder", desc := "(I)Z" } : Jvm.MethodName) ({ cls := "ParishUnionModel", name := "isOrder", desc := "(I)Z" } : Jvm.MethodName)) ∈ gT := gT_of (tb_0 _ (List.mem_of_getElem? (i := 73) rfl)) rfl
theorem dX12_appeal_5 : decode cX12_appeal 5 = .ok (.ifCond .eq 30, 3) := by decide +kernel
theorem dX12_appeal_35 : decode cX12_appeal 35 = .ok (.iconst (-1), 1) := by decide +kernel
theorem dX12_appeal_36 : decode cX12_appeal 36 = .ok (.ireturn, 1) := by decide +kernel
set_option maxRecDepth 100000 in
set_option maxHeartbeats 4000000 in
theorem c_X12_appeal {l : Launch} {n0 : Nat} {D : va_G} {cA : Nat → ClassId} {M : gM} (a b c : Int) (r_a : -2147483648 ≤ a ∧ a ≤ 2147483647) (r_b : -2147483648 ≤ b ∧ b ≤ 2147483647) (r_c : -2147483648 ≤ c ∧ c ≤ 2147483647) {sz : Nat} (hsz : 206 ≤ sz) (f_190_1 : M 190 1 = 192) (f_191_5 : M 191 5 = 0) : Met l yX12_appeal (gWsOf yX12_appeal cX12_appeal 4 (Option.some Jvm.ClassFile.FieldType.int)) { frames := 63, cells := 0, slots := 0, locals := 2473 } (gPc n0 D cA [gA n0 190, gJ a, gJ b, gJ c] M sz) (gQi n0 D cA sz (fun z M1 => (z = -1) ∧ ∀ a : Int, M1 a = M a)) 0 0 (fun q => n0 ≤ q) := by
  refine gMet_of [gA n0 190, gJ a, gJ b, gJ c] (by decide) (Nat.le_of_ble_eq_true rfl) ?_
  intro p e s m args below meth cd X hr hm
  have X : gCx p s m args meth cd n0 D cA "ParishUnionModel" cX12_appeal 4 := X
  show G p l e ({ frames := 63, cells := 0, slots := 0, locals := 2473 } : Room) s m args below meth cd n0 D cA 4 (MQ below (gQi n0 D cA sz (fun z M1 => (z = -1) ∧ ∀ a : Int, M1 a = M a)) args s 0 0 (fun q => n0 ≤ q)) 0 0 M sz 0 [(0, gA n0 190), (1, gJ a), (2, gJ b), (3, gJ c)] []
  refine g_aload_n (n := 1) X 0 dX12_appeal_0 rfl rfl rfl ?_
  refine g_iload_n (n := 2) X 1 dX12_appeal_1 rfl rfl rfl ?_
  refine g_callVi (n := 5) (As := [gJ a]) (rest := []) (cs1 := 0) (ss1 := 0) X (c_X12_isOrder a (by omega) (by omega) f_190_1 f_191_5) okX12_isOrder kw_7_102 ⟨kw_7_104, kw_0_73⟩ ⟨rfl, rfl⟩ ⟨Nat.le_of_ble_eq_true rfl, Nat.le_of_ble_eq_true rfl⟩ rfl (by omega) (by omega) lay_190 rfl rfl (Nat.le_of_ble_eq_true rfl) ⟨Nat.le_of_ble_eq_true rfl, Nat.le_of_ble_eq_true rfl⟩ rfl rfl dX12_appeal_2 rfl (fun z1 M2 P3 => ?_)
  obtain ⟨rfl, rfl⟩ := P3
  refine g_if_eq (n := 8) (tgt := 35) X dX12_appeal_5 (by decide) (by omega) rfl (fun c4 => ?_) (fun c4 => by exfalso; omega)
  refine g_iconst (n := 36) X dX12_appeal_35 rfl ?_
  exact g_ireturn X hr dX12_appeal_36 (by exact ⟨by omega, fun a  => rfl⟩)
theorem dX12_carry_0 : decode cX12_carry 0 = .ok (.aload_n 0, 1) := by decide +kernel
theorem dX12_carry_1 : decode cX12_carry 1 = .ok (.iload_n 1, 1) := by decide +kernel
theorem dX12_carry_2 : decode cX12_carry 2 = .ok (.invokevirtual 248, 3) := by decide +kernel
theorem dX12_carry_5 : decode cX12_carry 5 = .ok (.ifCond .ne 5, 3) := by decide +kernel
theorem dX12_carry_8 : decode cX12_carry 8 = .ok (.iconst (-1), 1) := by decide +kernel
theorem dX12_carry_9 : decode cX12_carry 9 = .ok (.ireturn, 1) := by decide +kernel
set_option maxRecDepth 100000 in
set_option maxHeartbeats 4000000 in
theorem c_X12_carry {l : Launch} {n0 : Nat} {D : va_G} {cA : Nat → ClassId} {M : gM} (a : Int) (r_a : -2147483648 ≤ a ∧ a ≤ 2147483647) {sz : Nat} (hsz : 206 ≤ sz) (f_190_1 : M 190 1 = 192) (f_191_5 : M 191 5 = 0) : Met l yX12_carry (gWsOf yX12_carry cX12_carry 3 (Option.some Jvm.ClassFile.FieldType.int)) { frames := 2, cells := 0, slots := 0, locals := 43 } (gPc n0 D cA [gA n0 190, gJ a] M sz) (gQi n0 D cA sz (fun z M1 => (z = -1) ∧ ∀ a : Int, M1 a = M a)) 0 0 (fun q => n0 ≤ q) := by
  refine gMet_of [gA n0 190, gJ a] (by decide) (Nat.le_of_ble_eq_true rfl) ?_
  intro p e s m args below meth cd X hr hm
  have X : gCx p s m args meth cd n0 D cA "ParishUnionModel" cX12_carry 3 := X
  show G p l e ({ frames := 2, cells := 0, slots := 0, locals := 43 } : Room) s m args below meth cd n0 D cA 3 (MQ below (gQi n0 D cA sz (fun z M1 => (z = -1) ∧ ∀ a : Int, M1 a = M a)) args s 0 0 (fun q => n0 ≤ q)) 0 0 M sz 0 [(0, gA n0 190), (1, gJ a)] []
  refine g_aload_n (n := 1) X 0 dX12_carry_0 rfl rfl rfl ?_
  refine g_iload_n (n := 2) X 1 dX12_carry_1 rfl rfl rfl ?_
  refine g_callVi (n := 5) (As := [gJ a]) (rest := []) (cs1 := 0) (ss1 := 0) X (c_X12_isOrder a (by omega) (by omega) f_190_1 f_191_5) okX12_isOrder kw_7_102 ⟨kw_7_104, kw_0_73⟩ ⟨rfl, rfl⟩ ⟨Nat.le_of_ble_eq_true rfl, Nat.le_of_ble_eq_true rfl⟩ rfl (by omega) (by omega) lay_190 rfl rfl (Nat.le_of_ble_eq_true rfl) ⟨Nat.le_of_ble_eq_true rfl, Nat.le_of_ble_eq_true rfl⟩ rfl rfl dX12_carry_2 rfl (fun z1 M2 P3 => ?_)
  obtain ⟨rfl, rfl⟩ := P3
  refine g_if_ne (n := 8) (tgt := 10) X dX12_carry_5 (by decide) (by omega) rfl (fun c4 => by exfalso; omega) (fun c4 => ?_)
  refine g_iconst (n := 9) X dX12_carry_8 rfl ?_
  exact g_ireturn X hr dX12_carry_9 (by exact ⟨by omega, fun a  => rfl⟩)
theorem dX12_gone_0 : decode cX12_gone 0 = .ok (.aload_n 0, 1) := by decide +kernel
theorem dX12_gone_1 : decode cX12_gone 1 = .ok (.iload_n 1, 1) := by decide +kernel
theorem dX12_gone_2 : decode cX12_gone 2 = .ok (.invokevirtual 275, 3) := by decide +kernel
theorem kw_7_170 : (Jvm.Cond.methodLink "ParishUnionModel" (275 : Nat) ({ cls := "ParishUnionModel", name := "isGone", desc := "(I)Z" } : Jvm.MethodName)) ∈ gT := gT_of (tb_7 _ (List.mem_of_getElem? (i := 170) rfl)) rfl
theorem kw_7_173 : (Jvm.Cond.code ({ cls := "ParishUnionModel", name := "isGone", desc := "(I)Z" } : Jvm.MethodName) prog_14_method_7_code (2 : Nat) (Option.some Jvm.ClassFile.FieldType.boolean)) ∈ gT := gT_of (tb_7 _ (List.mem_of_getElem? (i := 173) rfl)) rfl
theorem okX12_isGone : gQok yX12_isGone cX12_isGone 2 (Option.some Jvm.ClassFile.FieldType.boolean) 1 := ⟨kw_7_173, kw_1_13, by decide +kernel, by decide +kernel, by decide +kernel⟩
theorem kw_7_172 : (Jvm.Cond.instanceMethod ({ cls := "ParishUnionModel", name := "isGone", desc := "(I)Z" } : Jvm.MethodName)) ∈ gT := gT_of (tb_7 _ (List.mem_of_getElem? (i := 172) rfl)) rfl
theorem kw_0_82 : (Jvm.Cond.selects "ParishUnionModel" ({ cls := "ParishUnionModel", name := "isGone", desc := "(I)Z" } : Jvm.MethodName) ({ cls := "ParishUnionModel", name := "isGone", desc := "(I)Z" } : Jvm.MethodName)) ∈ gT := gT_of (tb_0 _ (List.mem_of_getElem? (i := 82) rfl)) rfl
theorem dX12_gone_5 : decode cX12_gone 5 = .ok (.ifCond .eq 13, 3) := by decide +kernel
theorem dX12_gone_18 : decode cX12_gone 18 = .ok (.iconst (-1), 1) := by decide +kernel
theorem dX12_gone_19 : decode cX12_gone 19 = .ok (.ireturn, 1) := by decide +kernel
set_option maxRecDepth 100000 in
set_option maxHeartbeats 4000000 in
theorem c_X12_gone {l : Launch} {n0 : Nat} {D : va_G} {cA : Nat → ClassId} {M : gM} (a b : Int) (r_a : -2147483648 ≤ a ∧ a ≤ 2147483647) (r_b : -2147483648 ≤ b ∧ b ≤ 2147483647) {sz : Nat} (hsz : 206 ≤ sz) (f_190_1 : M 190 1 = 192) (f_191_0 : M 191 0 = 0) : Met l yX12_gone (gWsOf yX12_gone cX12_gone 3 (Option.some Jvm.ClassFile.FieldType.int)) { frames := 2, cells := 0, slots := 0, locals := 43 } (gPc n0 D cA [gA n0 190, gJ a, gJ b] M sz) (gQi n0 D cA sz (fun z M1 => (z = -1) ∧ ∀ a : Int, M1 a = M a)) 0 0 (fun q => n0 ≤ q) := by
  refine gMet_of [gA n0 190, gJ a, gJ b] (by decide) (Nat.le_of_ble_eq_true rfl) ?_
  intro p e s m args below meth cd X hr hm
  have X : gCx p s m args meth cd n0 D cA "ParishUnionModel" cX12_gone 3 := X
  show G p l e ({ frames := 2, cells := 0, slots := 0, locals := 43 } : Room) s m args below meth cd n0 D cA 3 (MQ below (gQi n0 D cA sz (fun z M1 => (z = -1) ∧ ∀ a : Int, M1 a = M a)) args s 0 0 (fun q => n0 ≤ q)) 0 0 M sz 0 [(0, gA n0 190), (1, gJ a), (2, gJ b)] []
  refine g_aload_n (n := 1) X 0 dX12_gone_0 rfl rfl rfl ?_
  refine g_iload_n (n := 2) X 1 dX12_gone_1 rfl rfl rfl ?_
  refine g_callVi (n := 5) (As := [gJ a]) (rest := []) (cs1 := 0) (ss1 := 0) X (c_X12_isGone a (by omega) (by omega) f_190_1 f_191_0) okX12_isGone kw_7_170 ⟨kw_7_172, kw_0_82⟩ ⟨rfl, rfl⟩ ⟨Nat.le_of_ble_eq_true rfl, Nat.le_of_ble_eq_true rfl⟩ rfl (by omega) (by omega) lay_190 rfl rfl (Nat.le_of_ble_eq_true rfl) ⟨Nat.le_of_ble_eq_true rfl, Nat.le_of_ble_eq_true rfl⟩ rfl rfl dX12_gone_2 rfl (fun z1 M2 P3 => ?_)
  obtain ⟨rfl, rfl⟩ := P3
  refine g_if_eq (n := 8) (tgt := 18) X dX12_gone_5 (by decide) (by omega) rfl (fun c4 => ?_) (fun c4 => by exfalso; omega)
  refine g_iconst (n := 19) X dX12_gone_18 rfl ?_
  exact g_ireturn X hr dX12_gone_19 (by exact ⟨by omega, fun a  => rfl⟩)
theorem dX12_was_0 : decode cX12_was 0 = .ok (.aload_n 0, 1) := by decide +kernel
theorem dX12_was_1 : decode cX12_was 1 = .ok (.iload_n 2, 1) := by decide +kernel
theorem dX12_was_2 : decode cX12_was 2 = .ok (.invokevirtual 275, 3) := by decide +kernel
theorem dX12_was_5 : decode cX12_was 5 = .ok (.ifCond .eq 32, 3) := by decide +kernel
theorem dX12_was_37 : decode cX12_was 37 = .ok (.iconst (-1), 1) := by decide +kernel
theorem dX12_was_38 : decode cX12_was 38 = .ok (.ireturn, 1) := by decide +kernel
set_option maxRecDepth 100000 in
set_option maxHeartbeats 4000000 in
theorem c_X12_was {l : Launch} {n0 : Nat} {D : va_G} {cA : Nat → ClassId} {M : gM} (a b c : Int) (r_a : -2147483648 ≤ a ∧ a ≤ 2147483647) (r_b : -2147483648 ≤ b ∧ b ≤ 2147483647) (r_c : -2147483648 ≤ c ∧ c ≤ 2147483647) {sz : Nat} (hsz : 206 ≤ sz) (f_190_1 : M 190 1 = 192) (f_191_0 : M 191 0 = 0) : Met l yX12_was (gWsOf yX12_was cX12_was 4 (Option.some Jvm.ClassFile.FieldType.int)) { frames := 2, cells := 0, slots := 0, locals := 43 } (gPc n0 D cA [gA n0 190, gJ a, gJ b, gJ c] M sz) (gQi n0 D cA sz (fun z M1 => (z = -1) ∧ ∀ a : Int, M1 a = M a)) 0 0 (fun q => n0 ≤ q) := by
  refine gMet_of [gA n0 190, gJ a, gJ b, gJ c] (by decide) (Nat.le_of_ble_eq_true rfl) ?_
  intro p e s m args below meth cd X hr hm
  have X : gCx p s m args meth cd n0 D cA "ParishUnionModel" cX12_was 4 := X
  show G p l e ({ frames := 2, cells := 0, slots := 0, locals := 43 } : Room) s m args below meth cd n0 D cA 4 (MQ below (gQi n0 D cA sz (fun z M1 => (z = -1) ∧ ∀ a : Int, M1 a = M a)) args s 0 0 (fun q => n0 ≤ q)) 0 0 M sz 0 [(0, gA n0 190), (1, gJ a), (2, gJ b), (3, gJ c)] []
  refine g_aload_n (n := 1) X 0 dX12_was_0 rfl rfl rfl ?_
  refine g_iload_n (n := 2) X 2 dX12_was_1 rfl rfl rfl ?_
  refine g_callVi (n := 5) (As := [gJ b]) (rest := []) (cs1 := 0) (ss1 := 0) X (c_X12_isGone b (by omega) (by omega) f_190_1 f_191_0) okX12_isGone kw_7_170 ⟨kw_7_172, kw_0_82⟩ ⟨rfl, rfl⟩ ⟨Nat.le_of_ble_eq_true rfl, Nat.le_of_ble_eq_true rfl⟩ rfl (by omega) (by omega) lay_190 rfl rfl (Nat.le_of_ble_eq_true rfl) ⟨Nat.le_of_ble_eq_true rfl, Nat.le_of_ble_eq_true rfl⟩ rfl rfl dX12_was_2 rfl (fun z1 M2 P3 => ?_)
  obtain ⟨rfl, rfl⟩ := P3
  refine g_if_eq (n := 8) (tgt := 37) X dX12_was_5 (by decide) (by omega) rfl (fun c4 => ?_) (fun c4 => by exfalso; omega)
  refine g_iconst (n := 38) X dX12_was_37 rfl ?_
  exact g_ireturn X hr dX12_was_38 (by exact ⟨by omega, fun a  => rfl⟩)
theorem dX12_share_0 : decode cX12_share 0 = .ok (.iload_n 1, 1) := by decide +kernel
theorem dX12_share_1 : decode cX12_share 1 = .ok (.invokestatic 68, 3) := by decide +kernel
theorem dX12_share_4 : decode cX12_share 4 = .ok (.ifCond .eq 19, 3) := by decide +kernel
theorem dX12_share_23 : decode cX12_share 23 = .ok (.iconst (-1), 1) := by decide +kernel
theorem dX12_share_24 : decode cX12_share 24 = .ok (.ireturn, 1) := by decide +kernel
theorem dX12_share_7 : decode cX12_share 7 = .ok (.aload_n 0, 1) := by decide +kernel
theorem dX12_share_8 : decode cX12_share 8 = .ok (.iload_n 2, 1) := by decide +kernel
theorem dX12_share_9 : decode cX12_share 9 = .ok (.invokevirtual 275, 3) := by decide +kernel
theorem dX12_share_12 : decode cX12_share 12 = .ok (.ifCond .eq 11, 3) := by decide +kernel
set_option maxRecDepth 100000 in
set_option maxHeartbeats 4000000 in
theorem c_X12_share {l : Launch} {n0 : Nat} {D : va_G} {cA : Nat → ClassId} {M : gM} (a b c : Int) (r_a : -2147483648 ≤ a ∧ a ≤ 2147483647) (r_b : -2147483648 ≤ b ∧ b ≤ 2147483647) (r_c : -2147483648 ≤ c ∧ c ≤ 2147483647) {sz : Nat} (hsz : 206 ≤ sz) (f_190_1 : M 190 1 = 192) (f_191_0 : M 191 0 = 0) : Met l yX12_share (gWsOf yX12_share cX12_share 4 (Option.some Jvm.ClassFile.FieldType.int)) { frames := 63, cells := 0, slots := 0, locals := 2481 } (gPc n0 D cA [gA n0 190, gJ a, gJ b, gJ c] M sz) (gQi n0 D cA sz (fun z M1 => (z = -1) ∧ ∀ a : Int, M1 a = M a)) 0 0 (fun q => n0 ≤ q) := by
  refine gMet_of [gA n0 190, gJ a, gJ b, gJ c] (by decide) (Nat.le_of_ble_eq_true rfl) ?_
  intro p e s m args below meth cd X hr hm
  have X : gCx p s m args meth cd n0 D cA "ParishUnionModel" cX12_share 4 := X
  show G p l e ({ frames := 63, cells := 0, slots := 0, locals := 2481 } : Room) s m args below meth cd n0 D cA 4 (MQ below (gQi n0 D cA sz (fun z M1 => (z = -1) ∧ ∀ a : Int, M1 a = M a)) args s 0 0 (fun q => n0 ≤ q)) 0 0 M sz 0 [(0, gA n0 190), (1, gJ a), (2, gJ b), (3, gJ c)] []
  refine g_iload_n (n := 1) X 1 dX12_share_0 rfl rfl rfl ?_
  refine g_callSi (n := 4) (As := [gJ a]) (rest := []) (cs1 := 0) (ss1 := 0) X (c_X12_isParish a (by omega) (by omega)) okX12_isParish kw_6_103 kw_6_104 ⟨rfl, rfl⟩ ⟨Nat.le_of_ble_eq_true rfl, Nat.le_of_ble_eq_true rfl⟩ rfl rfl (Nat.le_of_ble_eq_true rfl) ⟨Nat.le_of_ble_eq_true rfl, Nat.le_of_ble_eq_true rfl⟩ rfl rfl dX12_share_1 rfl (fun z1 M2 P3 => ?_)
  obtain ⟨rfl, P3⟩ := P3
  refine g_if_eq (n := 7) (tgt := 23) X dX12_share_4 (by decide) (by omega) rfl (fun c4 => ?_) (fun c4 => ?_)
  · refine g_iconst (n := 24) X dX12_share_23 rfl ?_
    exact g_ireturn X hr dX12_share_24 (by exact ⟨by omega, fun a  => rfl⟩)
  · refine g_aload_n (n := 8) X 0 dX12_share_7 rfl rfl rfl ?_
    refine g_iload_n (n := 9) X 2 dX12_share_8 rfl rfl rfl ?_
    refine g_callVi (n := 12) (As := [gJ b]) (rest := []) (cs1 := 0) (ss1 := 0) X (c_X12_isGone b (by omega) (by omega) f_190_1 f_191_0) okX12_isGone kw_7_170 ⟨kw_7_172, kw_0_82⟩ ⟨rfl, rfl⟩ ⟨Nat.le_of_ble_eq_true rfl, Nat.le_of_ble_eq_true rfl⟩ rfl (by omega) (by omega) lay_190 rfl rfl (Nat.le_of_ble_eq_true rfl) ⟨Nat.le_of_ble_eq_true rfl, Nat.le_of_ble_eq_true rfl⟩ rfl rfl dX12_share_9 rfl (fun z5 M6 P7 => ?_)
    obtain ⟨rfl, rfl⟩ := P7
    refine g_if_eq (n := 15) (tgt := 23) X dX12_share_12 (by decide) (by omega) rfl (fun c8 => ?_) (fun c8 => by exfalso; omega)
    refine g_iconst (n := 24) X dX12_share_23 rfl ?_
    exact g_ireturn X hr dX12_share_24 (by exact ⟨by omega, fun a  => rfl⟩)
theorem dX12_sink_0 : decode cX12_sink 0 = .ok (.aload_n 0, 1) := by decide +kernel
theorem dX12_sink_1 : decode cX12_sink 1 = .ok (.iload_n 1, 1) := by decide +kernel
theorem dX12_sink_2 : decode cX12_sink 2 = .ok (.invokevirtual 275, 3) := by decide +kernel
theorem dX12_sink_5 : decode cX12_sink 5 = .ok (.ifCond .eq 19, 3) := by decide +kernel
theorem dX12_sink_24 : decode cX12_sink 24 = .ok (.iconst (-1), 1) := by decide +kernel
theorem dX12_sink_25 : decode cX12_sink 25 = .ok (.ireturn, 1) := by decide +kernel
set_option maxRecDepth 100000 in
set_option maxHeartbeats 4000000 in
theorem c_X12_sink {l : Launch} {n0 : Nat} {D : va_G} {cA : Nat → ClassId} {M : gM} (a b c : Int) (r_a : -2147483648 ≤ a ∧ a ≤ 2147483647) (r_b : -2147483648 ≤ b ∧ b ≤ 2147483647) (r_c : -2147483648 ≤ c ∧ c ≤ 2147483647) {sz : Nat} (hsz : 206 ≤ sz) (f_190_1 : M 190 1 = 192) (f_191_0 : M 191 0 = 0) : Met l yX12_sink (gWsOf yX12_sink cX12_sink 6 (Option.some Jvm.ClassFile.FieldType.int)) { frames := 63, cells := 0, slots := 0, locals := 2481 } (gPc n0 D cA [gA n0 190, gJ a, gJ b, gJ c] M sz) (gQi n0 D cA sz (fun z M1 => (z = -1) ∧ ∀ a : Int, M1 a = M a)) 0 0 (fun q => n0 ≤ q) := by
  refine gMet_of [gA n0 190, gJ a, gJ b, gJ c] (by decide) (Nat.le_of_ble_eq_true rfl) ?_
  intro p e s m args below meth cd X hr hm
  have X : gCx p s m args meth cd n0 D cA "ParishUnionModel" cX12_sink 6 := X
  show G p l e ({ frames := 63, cells := 0, slots := 0, locals := 2481 } : Room) s m args below meth cd n0 D cA 6 (MQ below (gQi n0 D cA sz (fun z M1 => (z = -1) ∧ ∀ a : Int, M1 a = M a)) args s 0 0 (fun q => n0 ≤ q)) 0 0 M sz 0 [(0, gA n0 190), (1, gJ a), (2, gJ b), (3, gJ c)] []
  refine g_aload_n (n := 1) X 0 dX12_sink_0 rfl rfl rfl ?_
  refine g_iload_n (n := 2) X 1 dX12_sink_1 rfl rfl rfl ?_
  refine g_callVi (n := 5) (As := [gJ a]) (rest := []) (cs1 := 0) (ss1 := 0) X (c_X12_isGone a (by omega) (by omega) f_190_1 f_191_0) okX12_isGone kw_7_170 ⟨kw_7_172, kw_0_82⟩ ⟨rfl, rfl⟩ ⟨Nat.le_of_ble_eq_true rfl, Nat.le_of_ble_eq_true rfl⟩ rfl (by omega) (by omega) lay_190 rfl rfl (Nat.le_of_ble_eq_true rfl) ⟨Nat.le_of_ble_eq_true rfl, Nat.le_of_ble_eq_true rfl⟩ rfl rfl dX12_sink_2 rfl (fun z1 M2 P3 => ?_)
  obtain ⟨rfl, rfl⟩ := P3
  refine g_if_eq (n := 8) (tgt := 24) X dX12_sink_5 (by decide) (by omega) rfl (fun c4 => ?_) (fun c4 => by exfalso; omega)
  refine g_iconst (n := 25) X dX12_sink_24 rfl ?_
  exact g_ireturn X hr dX12_sink_25 (by exact ⟨by omega, fun a  => rfl⟩)
theorem dX12_owed_0 : decode cX12_owed 0 = .ok (.iload_n 1, 1) := by decide +kernel
theorem dX12_owed_1 : decode cX12_owed 1 = .ok (.invokestatic 68, 3) := by decide +kernel
theorem dX12_owed_4 : decode cX12_owed 4 = .ok (.ifCond .eq 28, 3) := by decide +kernel
theorem dX12_owed_32 : decode cX12_owed 32 = .ok (.iconst (-1), 1) := by decide +kernel
theorem dX12_owed_33 : decode cX12_owed 33 = .ok (.ireturn, 1) := by decide +kernel
theorem dX12_owed_7 : decode cX12_owed 7 = .ok (.aload_n 0, 1) := by decide +kernel
theorem dX12_owed_8 : decode cX12_owed 8 = .ok (.iload_n 2, 1) := by decide +kernel
theorem dX12_owed_9 : decode cX12_owed 9 = .ok (.invokevirtual 275, 3) := by decide +kernel
theorem dX12_owed_12 : decode cX12_owed 12 = .ok (.ifCond .eq 20, 3) := by decide +kernel
set_option maxRecDepth 100000 in
set_option maxHeartbeats 4000000 in
theorem c_X12_owed {l : Launch} {n0 : Nat} {D : va_G} {cA : Nat → ClassId} {M : gM} (a b c d : Int) (r_a : -2147483648 ≤ a ∧ a ≤ 2147483647) (r_b : -2147483648 ≤ b ∧ b ≤ 2147483647) (r_c : -2147483648 ≤ c ∧ c ≤ 2147483647) (r_d : -2147483648 ≤ d ∧ d ≤ 2147483647) {sz : Nat} (hsz : 206 ≤ sz) (f_190_1 : M 190 1 = 192) (f_191_0 : M 191 0 = 0) : Met l yX12_owed (gWsOf yX12_owed cX12_owed 9 (Option.some Jvm.ClassFile.FieldType.int)) { frames := 62, cells := 0, slots := 0, locals := 2450 } (gPc n0 D cA [gA n0 190, gJ a, gJ b, gJ c, gJ d] M sz) (gQi n0 D cA sz (fun z M1 => (z = -1) ∧ ∀ a : Int, M1 a = M a)) 0 0 (fun q => n0 ≤ q) := by
  refine gMet_of [gA n0 190, gJ a, gJ b, gJ c, gJ d] (by decide) (Nat.le_of_ble_eq_true rfl) ?_
  intro p e s m args below meth cd X hr hm
  have X : gCx p s m args meth cd n0 D cA "ParishUnionModel" cX12_owed 9 := X
  show G p l e ({ frames := 62, cells := 0, slots := 0, locals := 2450 } : Room) s m args below meth cd n0 D cA 9 (MQ below (gQi n0 D cA sz (fun z M1 => (z = -1) ∧ ∀ a : Int, M1 a = M a)) args s 0 0 (fun q => n0 ≤ q)) 0 0 M sz 0 [(0, gA n0 190), (1, gJ a), (2, gJ b), (3, gJ c), (4, gJ d)] []
  refine g_iload_n (n := 1) X 1 dX12_owed_0 rfl rfl rfl ?_
  refine g_callSi (n := 4) (As := [gJ a]) (rest := []) (cs1 := 0) (ss1 := 0) X (c_X12_isParish a (by omega) (by omega)) okX12_isParish kw_6_103 kw_6_104 ⟨rfl, rfl⟩ ⟨Nat.le_of_ble_eq_true rfl, Nat.le_of_ble_eq_true rfl⟩ rfl rfl (Nat.le_of_ble_eq_true rfl) ⟨Nat.le_of_ble_eq_true rfl, Nat.le_of_ble_eq_true rfl⟩ rfl rfl dX12_owed_1 rfl (fun z1 M2 P3 => ?_)
  obtain ⟨rfl, P3⟩ := P3
  refine g_if_eq (n := 7) (tgt := 32) X dX12_owed_4 (by decide) (by omega) rfl (fun c4 => ?_) (fun c4 => ?_)
  · refine g_iconst (n := 33) X dX12_owed_32 rfl ?_
    exact g_ireturn X hr dX12_owed_33 (by exact ⟨by omega, fun a  => rfl⟩)
  · refine g_aload_n (n := 8) X 0 dX12_owed_7 rfl rfl rfl ?_
    refine g_iload_n (n := 9) X 2 dX12_owed_8 rfl rfl rfl ?_
    refine g_callVi (n := 12) (As := [gJ b]) (rest := []) (cs1 := 0) (ss1 := 0) X (c_X12_isGone b (by omega) (by omega) f_190_1 f_191_0) okX12_isGone kw_7_170 ⟨kw_7_172, kw_0_82⟩ ⟨rfl, rfl⟩ ⟨Nat.le_of_ble_eq_true rfl, Nat.le_of_ble_eq_true rfl⟩ rfl (by omega) (by omega) lay_190 rfl rfl (Nat.le_of_ble_eq_true rfl) ⟨Nat.le_of_ble_eq_true rfl, Nat.le_of_ble_eq_true rfl⟩ rfl rfl dX12_owed_9 rfl (fun z5 M6 P7 => ?_)
    obtain ⟨rfl, rfl⟩ := P7
    refine g_if_eq (n := 15) (tgt := 32) X dX12_owed_12 (by decide) (by omega) rfl (fun c8 => ?_) (fun c8 => by exfalso; omega)
    refine g_iconst (n := 33) X dX12_owed_32 rfl ?_
    exact g_ireturn X hr dX12_owed_33 (by exact ⟨by omega, fun a  => rfl⟩)
theorem dX12_bind_0 : decode cX12_bind 0 = .ok (.aload_n 0, 1) := by decide +kernel
theorem dX12_bind_1 : decode cX12_bind 1 = .ok (.iload_n 1, 1) := by decide +kernel
theorem dX12_bind_2 : decode cX12_bind 2 = .ok (.invokevirtual 76, 3) := by decide +kernel
theorem dX12_bind_5 : decode cX12_bind 5 = .ok (.ifCond .eq 12, 3) := by decide +kernel
theorem dX12_bind_17 : decode cX12_bind 17 = .ok (.iconst (-1), 1) := by decide +kernel
theorem dX12_bind_18 : decode cX12_bind 18 = .ok (.ireturn, 1) := by decide +kernel
set_option maxRecDepth 100000 in
set_option maxHeartbeats 4000000 in
theorem c_X12_bind {l : Launch} {n0 : Nat} {D : va_G} {cA : Nat → ClassId} {M : gM} (a b : Int) (r_a : -2147483648 ≤ a ∧ a ≤ 2147483647) (r_b : -2147483648 ≤ b ∧ b ≤ 2147483647) {sz : Nat} (hsz : 206 ≤ sz) (f_190_1 : M 190 1 = 192) (f_191_1 : M 191 1 = 0) : Met l yX12_bind (gWsOf yX12_bind cX12_bind 3 (Option.some Jvm.ClassFile.FieldType.int)) { frames := 3, cells := 0, slots := 0, locals := 72 } (gPc n0 D cA [gA n0 190, gJ a, gJ b] M sz) (gQi n0 D cA sz (fun z M1 => (z = -1) ∧ ∀ a : Int, M1 a = M a)) 0 0 (fun q => n0 ≤ q) := by
  refine gMet_of [gA n0 190, gJ a, gJ b] (by decide) (Nat.le_of_ble_eq_true rfl) ?_
  intro p e s m args below meth cd X hr hm
  have X : gCx p s m args meth cd n0 D cA "ParishUnionModel" cX12_bind 3 := X
  show G p l e ({ frames := 3, cells := 0, slots := 0, locals := 72 } : Room) s m args below meth cd n0 D cA 3 (MQ below (gQi n0 D cA sz (fun z M1 => (z = -1) ∧ ∀ a : Int, M1 a = M a)) args s 0 0 (fun q => n0 ≤ q)) 0 0 M sz 0 [(0, gA n0 190), (1, gJ a), (2, gJ b)] []
  refine g_aload_n (n := 1) X 0 dX12_bind_0 rfl rfl rfl ?_
  refine g_iload_n (n := 2) X 1 dX12_bind_1 rfl rfl rfl ?_
  refine g_callVi (n := 5) (As := [gJ a]) (rest := []) (cs1 := 0) (ss1 := 0) X (c_X12_isPerson a (by omega) (by omega) f_190_1 f_191_1) okX12_isPerson kw_6_125 ⟨kw_6_127, kw_0_40⟩ ⟨rfl, rfl⟩ ⟨Nat.le_of_ble_eq_true rfl, Nat.le_of_ble_eq_true rfl⟩ rfl (by omega) (by omega) lay_190 rfl rfl (Nat.le_of_ble_eq_true rfl) ⟨Nat.le_of_ble_eq_true rfl, Nat.le_of_ble_eq_true rfl⟩ rfl rfl dX12_bind_2 rfl (fun z1 M2 P3 => ?_)
  obtain ⟨rfl, rfl⟩ := P3
  refine g_if_eq (n := 8) (tgt := 17) X dX12_bind_5 (by decide) (by omega) rfl (fun c4 => ?_) (fun c4 => by exfalso; omega)
  refine g_iconst (n := 18) X dX12_bind_17 rfl ?_
  exact g_ireturn X hr dX12_bind_18 (by exact ⟨by omega, fun a  => rfl⟩)
theorem dX12_run_0 : decode cX12_run 0 = .ok (.aload_n 0, 1) := by decide +kernel
theorem dX12_run_1 : decode cX12_run 1 = .ok (.iload_n 1, 1) := by decide +kernel
theorem dX12_run_2 : decode cX12_run 2 = .ok (.invokevirtual 76, 3) := by decide +kernel
theorem dX12_run_5 : decode cX12_run 5 = .ok (.ifCond .ne 5, 3) := by decide +kernel
theorem dX12_run_8 : decode cX12_run 8 = .ok (.iconst (-1), 1) := by decide +kernel
theorem dX12_run_9 : decode cX12_run 9 = .ok (.ireturn, 1) := by decide +kernel
set_option maxRecDepth 100000 in
set_option maxHeartbeats 4000000 in
theorem c_X12_run {l : Launch} {n0 : Nat} {D : va_G} {cA : Nat → ClassId} {M : gM} (a : Int) (r_a : -2147483648 ≤ a ∧ a ≤ 2147483647) {sz : Nat} (hsz : 206 ≤ sz) (f_190_1 : M 190 1 = 192) (f_191_1 : M 191 1 = 0) : Met l yX12_run (gWsOf yX12_run cX12_run 2 (Option.some Jvm.ClassFile.FieldType.int)) { frames := 2, cells := 0, slots := 0, locals := 43 } (gPc n0 D cA [gA n0 190, gJ a] M sz) (gQi n0 D cA sz (fun z M1 => (z = -1) ∧ ∀ a : Int, M1 a = M a)) 0 0 (fun q => n0 ≤ q) := by
  refine gMet_of [gA n0 190, gJ a] (by decide) (Nat.le_of_ble_eq_true rfl) ?_
  intro p e s m args below meth cd X hr hm
  have X : gCx p s m args meth cd n0 D cA "ParishUnionModel" cX12_run 2 := X
  show G p l e ({ frames := 2, cells := 0, slots := 0, locals := 43 } : Room) s m args below meth cd n0 D cA 2 (MQ below (gQi n0 D cA sz (fun z M1 => (z = -1) ∧ ∀ a : Int, M1 a = M a)) args s 0 0 (fun q => n0 ≤ q)) 0 0 M sz 0 [(0, gA n0 190), (1, gJ a)] []
  refine g_aload_n (n := 1) X 0 dX12_run_0 rfl rfl rfl ?_
  refine g_iload_n (n := 2) X 1 dX12_run_1 rfl rfl rfl ?_
  refine g_callVi (n := 5) (As := [gJ a]) (rest := []) (cs1 := 0) (ss1 := 0) X (c_X12_isPerson a (by omega) (by omega) f_190_1 f_191_1) okX12_isPerson kw_6_125 ⟨kw_6_127, kw_0_40⟩ ⟨rfl, rfl⟩ ⟨Nat.le_of_ble_eq_true rfl, Nat.le_of_ble_eq_true rfl⟩ rfl (by omega) (by omega) lay_190 rfl rfl (Nat.le_of_ble_eq_true rfl) ⟨Nat.le_of_ble_eq_true rfl, Nat.le_of_ble_eq_true rfl⟩ rfl rfl dX12_run_2 rfl (fun z1 M2 P3 => ?_)
  obtain ⟨rfl, rfl⟩ := P3
  refine g_if_ne (n := 8) (tgt := 10) X dX12_run_5 (by decide) (by omega) rfl (fun c4 => by exfalso; omega) (fun c4 => ?_)
  refine g_iconst (n := 9) X dX12_run_8 rfl ?_
  exact g_ireturn X hr dX12_run_9 (by exact ⟨by omega, fun a  => rfl⟩)
theorem dX12_told_0 : decode cX12_told 0 = .ok (.aload_n 0, 1) := by decide +kernel
theorem dX12_told_1 : decode cX12_told 1 = .ok (.iload_n 1, 1) := by decide +kernel
theorem dX12_told_2 : decode cX12_told 2 = .ok (.invokevirtual 76, 3) := by decide +kernel
theorem dX12_told_5 : decode cX12_told 5 = .ok (.ifCond .ne 5, 3) := by decide +kernel
theorem dX12_told_8 : decode cX12_told 8 = .ok (.iconst (-1), 1) := by decide +kernel
theorem dX12_told_9 : decode cX12_told 9 = .ok (.ireturn, 1) := by decide +kernel
set_option maxRecDepth 100000 in
set_option maxHeartbeats 4000000 in
theorem c_X12_told {l : Launch} {n0 : Nat} {D : va_G} {cA : Nat → ClassId} {M : gM} (a b : Int) (r_a : -2147483648 ≤ a ∧ a ≤ 2147483647) (r_b : -2147483648 ≤ b ∧ b ≤ 2147483647) {sz : Nat} (hsz : 206 ≤ sz) (f_190_1 : M 190 1 = 192) (f_191_1 : M 191 1 = 0) : Met l yX12_told (gWsOf yX12_told cX12_told 4 (Option.some Jvm.ClassFile.FieldType.int)) { frames := 2, cells := 0, slots := 0, locals := 43 } (gPc n0 D cA [gA n0 190, gJ a, gJ b] M sz) (gQi n0 D cA sz (fun z M1 => (z = -1) ∧ ∀ a : Int, M1 a = M a)) 0 0 (fun q => n0 ≤ q) := by
  refine gMet_of [gA n0 190, gJ a, gJ b] (by decide) (Nat.le_of_ble_eq_true rfl) ?_
  intro p e s m args below meth cd X hr hm
  have X : gCx p s m args meth cd n0 D cA "ParishUnionModel" cX12_told 4 := X
  show G p l e ({ frames := 2, cells := 0, slots := 0, locals := 43 } : Room) s m args below meth cd n0 D cA 4 (MQ below (gQi n0 D cA sz (fun z M1 => (z = -1) ∧ ∀ a : Int, M1 a = M a)) args s 0 0 (fun q => n0 ≤ q)) 0 0 M sz 0 [(0, gA n0 190), (1, gJ a), (2, gJ b)] []
  refine g_aload_n (n := 1) X 0 dX12_told_0 rfl rfl rfl ?_
  refine g_iload_n (n := 2) X 1 dX12_told_1 rfl rfl rfl ?_
  refine g_callVi (n := 5) (As := [gJ a]) (rest := []) (cs1 := 0) (ss1 := 0) X (c_X12_isPerson a (by omega) (by omega) f_190_1 f_191_1) okX12_isPerson kw_6_125 ⟨kw_6_127, kw_0_40⟩ ⟨rfl, rfl⟩ ⟨Nat.le_of_ble_eq_true rfl, Nat.le_of_ble_eq_true rfl⟩ rfl (by omega) (by omega) lay_190 rfl rfl (Nat.le_of_ble_eq_true rfl) ⟨Nat.le_of_ble_eq_true rfl, Nat.le_of_ble_eq_true rfl⟩ rfl rfl dX12_told_2 rfl (fun z1 M2 P3 => ?_)
  obtain ⟨rfl, rfl⟩ := P3
  refine g_if_ne (n := 8) (tgt := 10) X dX12_told_5 (by decide) (by omega) rfl (fun c4 => by exfalso; omega) (fun c4 => ?_)
  refine g_iconst (n := 9) X dX12_told_8 rfl ?_
  exact g_ireturn X hr dX12_told_9 (by exact ⟨by omega, fun a  => rfl⟩)
theorem dX12_check_0 : decode cX12_check 0 = .ok (.aload_n 0, 1) := by decide +kernel
theorem dX12_check_1 : decode cX12_check 1 = .ok (.iload_n 1, 1) := by decide +kernel
theorem dX12_check_2 : decode cX12_check 2 = .ok (.invokevirtual 275, 3) := by decide +kernel
theorem dX12_check_5 : decode cX12_check 5 = .ok (.ifCond .ne 5, 3) := by decide +kernel
theorem dX12_check_8 : decode cX12_check 8 = .ok (.iconst (-1), 1) := by decide +kernel
theorem dX12_check_9 : decode cX12_check 9 = .ok (.ireturn, 1) := by decide +kernel
set_option maxRecDepth 100000 in
set_option maxHeartbeats 4000000 in
theorem c_X12_check {l : Launch} {n0 : Nat} {D : va_G} {cA : Nat → ClassId} {M : gM} (a : Int) (r_a : -2147483648 ≤ a ∧ a ≤ 2147483647) {sz : Nat} (hsz : 206 ≤ sz) (f_190_1 : M 190 1 = 192) (f_191_0 : M 191 0 = 0) : Met l yX12_check (gWsOf yX12_check cX12_check 3 (Option.some Jvm.ClassFile.FieldType.int)) { frames := 2, cells := 0, slots := 0, locals := 43 } (gPc n0 D cA [gA n0 190, gJ a] M sz) (gQi n0 D cA sz (fun z M1 => (z = -1) ∧ ∀ a : Int, M1 a = M a)) 0 0 (fun q => n0 ≤ q) := by
  refine gMet_of [gA n0 190, gJ a] (by decide) (Nat.le_of_ble_eq_true rfl) ?_
  intro p e s m args below meth cd X hr hm
  have X : gCx p s m args meth cd n0 D cA "ParishUnionModel" cX12_check 3 := X
  show G p l e ({ frames := 2, cells := 0, slots := 0, locals := 43 } : Room) s m args below meth cd n0 D cA 3 (MQ below (gQi n0 D cA sz (fun z M1 => (z = -1) ∧ ∀ a : Int, M1 a = M a)) args s 0 0 (fun q => n0 ≤ q)) 0 0 M sz 0 [(0, gA n0 190), (1, gJ a)] []
  refine g_aload_n (n := 1) X 0 dX12_check_0 rfl rfl rfl ?_
  refine g_iload_n (n := 2) X 1 dX12_check_1 rfl rfl rfl ?_
  refine g_callVi (n := 5) (As := [gJ a]) (rest := []) (cs1 := 0) (ss1 := 0) X (c_X12_isGone a (by omega) (by omega) f_190_1 f_191_0) okX12_isGone kw_7_170 ⟨kw_7_172, kw_0_82⟩ ⟨rfl, rfl⟩ ⟨Nat.le_of_ble_eq_true rfl, Nat.le_of_ble_eq_true rfl⟩ rfl (by omega) (by omega) lay_190 rfl rfl (Nat.le_of_ble_eq_true rfl) ⟨Nat.le_of_ble_eq_true rfl, Nat.le_of_ble_eq_true rfl⟩ rfl rfl dX12_check_2 rfl (fun z1 M2 P3 => ?_)
  obtain ⟨rfl, rfl⟩ := P3
  refine g_if_ne (n := 8) (tgt := 10) X dX12_check_5 (by decide) (by omega) rfl (fun c4 => by exfalso; omega) (fun c4 => ?_)
  refine g_iconst (n := 9) X dX12_check_8 rfl ?_
  exact g_ireturn X hr dX12_check_9 (by exact ⟨by omega, fun a  => rfl⟩)
theorem dX12_undo_0 : decode cX12_undo 0 = .ok (.aload_n 0, 1) := by decide +kernel
theorem dX12_undo_1 : decode cX12_undo 1 = .ok (.getfield 312, 3) := by decide +kernel
theorem kw_6_30 : (Jvm.Cond.fieldLink "ParishUnionModel" (312 : Nat) "ParishUnionModel" "hasImage" "Z") ∈ gT := gT_of (tb_6 _ (List.mem_of_getElem? (i := 30) rfl)) rfl
theorem dX12_undo_4 : decode cX12_undo 4 = .ok (.ifCond .ne 6, 3) := by decide +kernel
theorem dX12_undo_7 : decode cX12_undo 7 = .ok (.bipush (-3), 2) := by decide +kernel
theorem dX12_undo_9 : decode cX12_undo 9 = .ok (.ireturn, 1) := by decide +kernel
set_option maxRecDepth 100000 in
set_option maxHeartbeats 4000000 in
theorem c_X12_undo {l : Launch} {n0 : Nat} {D : va_G} {cA : Nat → ClassId} {M : gM}  {sz : Nat} (hsz : 206 ≤ sz) (f_190_4 : M 190 4 = 0) : Met l yX12_undo (gWsOf yX12_undo cX12_undo 1 (Option.some Jvm.ClassFile.FieldType.int)) { frames := 1, cells := 0, slots := 0, locals := 23 } (gPc n0 D cA [gA n0 190] M sz) (gQi n0 D cA sz (fun z M1 => (z = -3) ∧ ∀ a : Int, M1 a = M a)) 0 0 (fun q => n0 ≤ q) := by
  refine gMet_of [gA n0 190] (by decide) (Nat.le_of_ble_eq_true rfl) ?_
  intro p e s m args below meth cd X hr hm
  have X : gCx p s m args meth cd n0 D cA "ParishUnionModel" cX12_undo 1 := X
  show G p l e ({ frames := 1, cells := 0, slots := 0, locals := 23 } : Room) s m args below meth cd n0 D cA 1 (MQ below (gQi n0 D cA sz (fun z M1 => (z = -3) ∧ ∀ a : Int, M1 a = M a)) args s 0 0 (fun q => n0 ≤ q)) 0 0 M sz 0 [(0, gA n0 190)] []
  refine g_aload_n (n := 1) X 0 dX12_undo_0 rfl rfl rfl ?_
  refine gg_12_4 (n := 4) (z := 0) X (by omega) (by omega) lay_190 kw_6_30 dX12_undo_1 rfl f_190_4 ?_
  refine g_if_ne (n := 7) (tgt := 10) X dX12_undo_4 (by decide) (by omega) rfl (fun c1 => by exfalso; omega) (fun c1 => ?_)
  refine g_bipush (n := 9) X dX12_undo_7 (by decide +kernel) rfl ?_
  exact g_ireturn X hr dX12_undo_9 (by exact ⟨by omega, fun a  => rfl⟩)
theorem dX12_price_0 : decode cX12_price 0 = .ok (.iload_n 1, 1) := by decide +kernel
theorem dX12_price_1 : decode cX12_price 1 = .ok (.iconst 0, 1) := by decide +kernel
theorem dX12_price_2 : decode cX12_price 2 = .ok (.bipush 99, 2) := by decide +kernel
theorem dX12_price_4 : decode cX12_price 4 = .ok (.invokestatic 64, 3) := by decide +kernel
theorem dX12_price_7 : decode cX12_price 7 = .ok (.ifCond .ne 6, 3) := by decide +kernel
theorem dX12_price_13 : decode cX12_price 13 = .ok (.aload_n 0, 1) := by decide +kernel
theorem dX12_price_14 : decode cX12_price 14 = .ok (.getfield 7, 3) := by decide +kernel
theorem dX12_price_17 : decode cX12_price 17 = .ok (.bipush 9, 2) := by decide +kernel
theorem dX12_price_19 : decode cX12_price 19 = .ok (.iaload, 1) := by decide +kernel
theorem dX12_price_20 : decode cX12_price 20 = .ok (.istore_n 2, 1) := by decide +kernel
theorem dX12_price_21 : decode cX12_price 21 = .ok (.aload_n 0, 1) := by decide +kernel
theorem dX12_price_22 : decode cX12_price 22 = .ok (.getfield 7, 3) := by decide +kernel
theorem dX12_price_25 : decode cX12_price 25 = .ok (.bipush 9, 2) := by decide +kernel
theorem dX12_price_27 : decode cX12_price 27 = .ok (.iload_n 1, 1) := by decide +kernel
theorem dX12_price_28 : decode cX12_price 28 = .ok (.iastore, 1) := by decide +kernel
theorem dX12_price_29 : decode cX12_price 29 = .ok (.iload_n 2, 1) := by decide +kernel
theorem dX12_price_30 : decode cX12_price 30 = .ok (.ireturn, 1) := by decide +kernel
theorem dX12_price_10 : decode cX12_price 10 = .ok (.bipush (-2), 2) := by decide +kernel
theorem dX12_price_12 : decode cX12_price 12 = .ok (.ireturn, 1) := by decide +kernel
set_option maxRecDepth 100000 in
set_option maxHeartbeats 4000000 in
theorem c_X12_price {l : Launch} {n0 : Nat} {D : va_G} {cA : Nat → ClassId} {M : gM} (a : Int) (r_a : -2147483648 ≤ a ∧ a ≤ 2147483647) {sz : Nat} (hsz : 206 ≤ sz) (f_190_1 : M 190 1 = 192) (f_191_9 : M 191 9 = 1) : Met l yX12_price (gWsOf yX12_price cX12_price 3 (Option.some Jvm.ClassFile.FieldType.int)) { frames := 1, cells := 0, slots := 0, locals := 22 } (gPc n0 D cA [gA n0 190, gJ a] M sz) (gQi n0 D cA sz (fun z M1 => (((¬(0 ≤ a ∧ a ≤ 99)) → z = -2) ∧ (¬(¬(0 ≤ a ∧ a ≤ 99)) → (z = 1))) ∧ ∀ a : Int, a ≠ 191 → M1 a = M a)) 0 0 (fun q => n0 ≤ q) := by
  refine gMet_of [gA n0 190, gJ a] (by decide) (Nat.le_of_ble_eq_true rfl) ?_
  intro p e s m args below meth cd X hr hm
  have X : gCx p s m args meth cd n0 D cA "ParishUnionModel" cX12_price 3 := X
  show G p l e ({ frames := 1, cells := 0, slots := 0, locals := 22 } : Room) s m args below meth cd n0 D cA 3 (MQ below (gQi n0 D cA sz (fun z M1 => (((¬(0 ≤ a ∧ a ≤ 99)) → z = -2) ∧ (¬(¬(0 ≤ a ∧ a ≤ 99)) → (z = 1))) ∧ ∀ a : Int, a ≠ 191 → M1 a = M a)) args s 0 0 (fun q => n0 ≤ q)) 0 0 M sz 0 [(0, gA n0 190), (1, gJ a)] []
  refine g_iload_n (n := 1) X 1 dX12_price_0 rfl rfl rfl ?_
  refine g_iconst (n := 2) X dX12_price_1 rfl ?_
  refine g_bipush (n := 4) X dX12_price_2 (by decide +kernel) rfl ?_
  refine g_callSi (n := 7) (As := [gJ a, gJ 0, gJ 99]) (rest := []) (cs1 := 0) (ss1 := 0) X (c_X12_in a 0 99 (by omega) (by omega) (by omega) (by omega)) okX12_in kw_6_106 kw_6_107 ⟨rfl, rfl⟩ ⟨Nat.le_of_ble_eq_true rfl, Nat.le_of_ble_eq_true rfl⟩ rfl rfl (Nat.le_of_ble_eq_true rfl) ⟨Nat.le_of_ble_eq_true rfl, Nat.le_of_ble_eq_true rfl⟩ rfl rfl dX12_price_4 rfl (fun z1 M2 P3 => ?_)
  obtain ⟨rfl, P3⟩ := P3
  refine g_if_ne (n := 10) (tgt := 13) X dX12_price_7 (by decide) (by omega) rfl (fun c4 => ?_) (fun c4 => ?_)
  · refine g_aload_n (n := 14) X 0 dX12_price_13 rfl rfl rfl ?_
    refine gg_12_1 (n := 17) (z := 191) X (by omega) (by omega) lay_190 kw_6_27 dX12_price_14 rfl f_190_1 (by omega) ?_
    refine g_bipush (n := 19) X dX12_price_17 (by decide +kernel) rfl ?_
    refine g_iald (n := 20) X (by omega) (by omega) lay_191 (by omega) (by omega) (by omega) dX12_price_19 rfl ?_
    rw [show M 191 9 = 1 from f_191_9]
    refine g_istore_n (n := 21) (L' := [(2, gJ 1), (0, gA n0 190), (1, gJ a)]) X dX12_price_20 rfl (by decide) rfl rfl ?_
    refine g_aload_n (n := 22) X 1 dX12_price_21 rfl rfl rfl ?_
    refine gg_12_1 (n := 25) (z := 191) X (by omega) (by omega) lay_190 kw_6_27 dX12_price_22 rfl f_190_1 (by omega) ?_
    refine g_bipush (n := 27) X dX12_price_25 (by decide +kernel) rfl ?_
    refine g_iload_n (n := 28) X 2 dX12_price_27 rfl rfl rfl ?_
    refine g_iast (n := 29) X (by omega) (by omega) lay_191 (by omega) (by omega) (by omega) dX12_price_28 rfl ?_
    refine G.nm (fun M5 e6 => ?_)
    refine g_iload_n (n := 30) X 0 dX12_price_29 rfl rfl rfl ?_
    exact g_ireturn X hr dX12_price_30 (by exact ⟨by omega, fun a h0 => ((congrFun e6 a).trans ((gset_off a (by omega)).trans rfl))⟩)
  · refine g_bipush (n := 12) X dX12_price_10 (by decide +kernel) rfl ?_
    exact g_ireturn X hr dX12_price_12 (by exact ⟨by omega, fun a h0 => rfl⟩)
theorem dX12_house_0 : decode cX12_house 0 = .ok (.iload_n 1, 1) := by decide +kernel
theorem dX12_house_1 : decode cX12_house 1 = .ok (.iconst 0, 1) := by decide +kernel
theorem dX12_house_2 : decode cX12_house 2 = .ok (.iconst 4, 1) := by decide +kernel
theorem dX12_house_3 : decode cX12_house 3 = .ok (.invokestatic 64, 3) := by decide +kernel
theorem dX12_house_6 : decode cX12_house 6 = .ok (.ifCond .ne 5, 3) := by decide +kernel
theorem dX12_house_11 : decode cX12_house 11 = .ok (.iload_n 2, 1) := by decide +kernel
theorem dX12_house_12 : decode cX12_house 12 = .ok (.iconst 0, 1) := by decide +kernel
theorem dX12_house_13 : decode cX12_house 13 = .ok (.iload_n 1, 1) := by decide +kernel
theorem dX12_house_14 : decode cX12_house 14 = .ok (.iconst 4, 1) := by decide +kernel
theorem dX12_house_15 : decode cX12_house 15 = .ok (.if_icmp .ne 9, 3) := by decide +kernel
theorem dX12_house_24 : decode cX12_house 24 = .ok (.bipush 20, 2) := by decide +kernel
theorem dX12_house_26 : decode cX12_house 26 = .ok (.invokestatic 64, 3) := by decide +kernel
theorem dX12_house_29 : decode cX12_house 29 = .ok (.ifCond .ne 6, 3) := by decide +kernel
theorem dX12_house_35 : decode cX12_house 35 = .ok (.iload_n 1, 1) := by decide +kernel
theorem dX12_house_36 : decode cX12_house 36 = .ok (.iconst 4, 1) := by decide +kernel
theorem dX12_house_37 : decode cX12_house 37 = .ok (.if_icmp .ne 8, 3) := by decide +kernel
theorem dX12_house_45 : decode cX12_house 45 = .ok (.bipush 60, 2) := by decide +kernel
theorem dX12_house_47 : decode cX12_house 47 = .ok (.iload_n 1, 1) := by decide +kernel
theorem dX12_house_48 : decode cX12_house 48 = .ok (.iadd, 1) := by decide +kernel
theorem dX12_house_49 : decode cX12_house 49 = .ok (.istore_n 3, 1) := by decide +kernel
theorem dX12_house_50 : decode cX12_house 50 = .ok (.aload_n 0, 1) := by decide +kernel
theorem dX12_house_51 : decode cX12_house 51 = .ok (.getfield 7, 3) := by decide +kernel
theorem dX12_house_54 : decode cX12_house 54 = .ok (.iload_n 3, 1) := by decide +kernel
theorem dX12_house_55 : decode cX12_house 55 = .ok (.iaload, 1) := by decide +kernel
theorem dX12_house_56 : decode cX12_house 56 = .ok (.istore 4, 2) := by decide +kernel
theorem dX12_house_58 : decode cX12_house 58 = .ok (.aload_n 0, 1) := by decide +kernel
theorem dX12_house_59 : decode cX12_house 59 = .ok (.getfield 7, 3) := by decide +kernel
theorem dX12_house_62 : decode cX12_house 62 = .ok (.iload_n 3, 1) := by decide +kernel
theorem dX12_house_63 : decode cX12_house 63 = .ok (.iload_n 2, 1) := by decide +kernel
theorem dX12_house_64 : decode cX12_house 64 = .ok (.iastore, 1) := by decide +kernel
theorem dX12_house_65 : decode cX12_house 65 = .ok (.iload 4, 2) := by decide +kernel
theorem dX12_house_67 : decode cX12_house 67 = .ok (.ireturn, 1) := by decide +kernel
theorem dX12_house_40 : decode cX12_house 40 = .ok (.bipush 8, 2) := by decide +kernel
theorem dX12_house_42 : decode cX12_house 42 = .ok (.goto 7, 3) := by decide +kernel
theorem dX12_house_32 : decode cX12_house 32 = .ok (.bipush (-2), 2) := by decide +kernel
theorem dX12_house_34 : decode cX12_house 34 = .ok (.ireturn, 1) := by decide +kernel
theorem dX12_house_18 : decode cX12_house 18 = .ok (.sipush 9999, 3) := by decide +kernel
theorem dX12_house_21 : decode cX12_house 21 = .ok (.goto 5, 3) := by decide +kernel
theorem dX12_house_9 : decode cX12_house 9 = .ok (.iconst (-1), 1) := by decide +kernel
theorem dX12_house_10 : decode cX12_house 10 = .ok (.ireturn, 1) := by decide +kernel
set_option maxRecDepth 100000 in
set_option maxHeartbeats 4000000 in
theorem c_X12_house {l : Launch} {n0 : Nat} {D : va_G} {cA : Nat → ClassId} {M : gM} (a b : Int) (r_a : -2147483648 ≤ a ∧ a ≤ 2147483647) (r_b : -2147483648 ≤ b ∧ b ≤ 2147483647) {sz : Nat} (hsz : 206 ≤ sz) (f_190_1 : M 190 1 = 192) (hS : ∀ i : Int, 0 ≤ i → i < 25301 → M 191 i = gS0 i) : Met l yX12_house (gWsOf yX12_house cX12_house 5 (Option.some Jvm.ClassFile.FieldType.int)) { frames := 1, cells := 0, slots := 0, locals := 22 } (gPc n0 D cA [gA n0 190, gJ a, gJ b] M sz) (gQi n0 D cA sz (fun z M1 => (((¬(0 ≤ a ∧ a ≤ 4)) → z = -1) ∧ (¬(¬(0 ≤ a ∧ a ≤ 4)) → ((a = 4 ∧ ¬(0 ≤ b ∧ b ≤ 9999)) ∨ (¬ a = 4 ∧ ¬(0 ≤ b ∧ b ≤ 20))) → z = -2) ∧ (¬(¬(0 ≤ a ∧ a ≤ 4)) → ¬((a = 4 ∧ ¬(0 ≤ b ∧ b ≤ 9999)) ∨ (¬ a = 4 ∧ ¬(0 ≤ b ∧ b ≤ 20))) → ((a = 4 → z = 0) ∧ (¬ a = 4 → z = 2)))) ∧ ∀ a : Int, a ≠ 191 → M1 a = M a)) 0 0 (fun q => n0 ≤ q) := by
  refine gMet_of [gA n0 190, gJ a, gJ b] (by decide) (Nat.le_of_ble_eq_true rfl) ?_
  intro p e s m args below meth cd X hr hm
  have X : gCx p s m args meth cd n0 D cA "ParishUnionModel" cX12_house 5 := X
  show G p l e ({ frames := 1, cells := 0, slots := 0, locals := 22 } : Room) s m args below meth cd n0 D cA 5 (MQ below (gQi n0 D cA sz (fun z M1 => (((¬(0 ≤ a ∧ a ≤ 4)) → z = -1) ∧ (¬(¬(0 ≤ a ∧ a ≤ 4)) → ((a = 4 ∧ ¬(0 ≤ b ∧ b ≤ 9999)) ∨ (¬ a = 4 ∧ ¬(0 ≤ b ∧ b ≤ 20))) → z = -2) ∧ (¬(¬(0 ≤ a ∧ a ≤ 4)) → ¬((a = 4 ∧ ¬(0 ≤ b ∧ b ≤ 9999)) ∨ (¬ a = 4 ∧ ¬(0 ≤ b ∧ b ≤ 20))) → ((a = 4 → z = 0) ∧ (¬ a = 4 → z = 2)))) ∧ ∀ a : Int, a ≠ 191 → M1 a = M a)) args s 0 0 (fun q => n0 ≤ q)) 0 0 M sz 0 [(0, gA n0 190), (1, gJ a), (2, gJ b)] []
  refine g_iload_n (n := 1) X 1 dX12_house_0 rfl rfl rfl ?_
  refine g_iconst (n := 2) X dX12_house_1 rfl ?_
  refine g_iconst (n := 3) X dX12_house_2 rfl ?_
  refine g_callSi (n := 6) (As := [gJ a, gJ 0, gJ 4]) (rest := []) (cs1 := 0) (ss1 := 0) X (c_X12_in a 0 4 (by omega) (by omega) (by omega) (by omega)) okX12_in kw_6_106 kw_6_107 ⟨rfl, rfl⟩ ⟨Nat.le_of_ble_eq_true rfl, Nat.le_of_ble_eq_true rfl⟩ rfl rfl (Nat.le_of_ble_eq_true rfl) ⟨Nat.le_of_ble_eq_true rfl, Nat.le_of_ble_eq_true rfl⟩ rfl rfl dX12_house_3 rfl (fun z1 M2 P3 => ?_)
  obtain ⟨rfl, P3⟩ := P3
  refine g_if_ne (n := 9) (tgt := 11) X dX12_house_6 (by decide) (by omega) rfl (fun c4 => ?_) (fun c4 => ?_)
  · refine g_iload_n (n := 12) X 2 dX12_house_11 rfl rfl rfl ?_
    refine g_iconst (n := 13) X dX12_house_12 rfl ?_
    refine g_iload_n (n := 14) X 1 dX12_house_13 rfl rfl rfl ?_
    refine g_iconst (n := 15) X dX12_house_14 rfl ?_
    refine g_icmp_ne (n := 18) (tgt := 24) X dX12_house_15 (by decide) (by omega) (by omega) rfl (fun c5 => ?_) (fun c5 => ?_)
    · refine g_bipush (n := 26) X dX12_house_24 (by decide +kernel) rfl ?_
      refine g_callSi (n := 29) (As := [gJ b, gJ 0, gJ 20]) (rest := []) (cs1 := 0) (ss1 := 0) X (c_X12_in b 0 20 (by omega) (by omega) (by omega) (by omega)) okX12_in kw_6_106 kw_6_107 ⟨rfl, rfl⟩ ⟨Nat.le_of_ble_eq_true rfl, Nat.le_of_ble_eq_true rfl⟩ rfl rfl (Nat.le_of_ble_eq_true rfl) ⟨Nat.le_of_ble_eq_true rfl, Nat.le_of_ble_eq_true rfl⟩ rfl rfl dX12_house_26 rfl (fun z6 M7 P8 => ?_)
      obtain ⟨rfl, P8⟩ := P8
      refine g_if_ne (n := 32) (tgt := 35) X dX12_house_29 (by decide) (by omega) rfl (fun c9 => ?_) (fun c9 => ?_)
      · refine g_iload_n (n := 36) X 1 dX12_house_35 rfl rfl rfl ?_
        refine g_iconst (n := 37) X dX12_house_36 rfl ?_
        refine g_icmp_ne (n := 40) (tgt := 45) X dX12_house_37 (by decide) (by omega) (by omega) rfl (fun c10 => ?_) (fun c10 => ?_)
        · refine g_bipush (n := 47) X dX12_house_45 (by decide +kernel) rfl ?_
          refine g_iload_n (n := 48) X 1 dX12_house_47 rfl rfl rfl ?_
          refine g_iadd (n := 49) (z := 60 + a) X dX12_house_48 rfl rfl ?_
          refine g_istore_n (n := 50) (L' := [(3, gJ (60 + a)), (0, gA n0 190), (1, gJ a), (2, gJ b)]) X dX12_house_49 rfl (by decide) rfl rfl ?_
          refine g_aload_n (n := 51) X 1 dX12_house_50 rfl rfl rfl ?_
          refine gg_12_1 (n := 54) (z := 191) X (by omega) (by omega) lay_190 kw_6_27 dX12_house_51 rfl f_190_1 (by omega) ?_
          refine g_iload_n (n := 55) X 0 dX12_house_54 rfl rfl rfl ?_
          refine g_iald (n := 56) X (by omega) (by omega) lay_191 (by omega) (by omega) (by omega) dX12_house_55 rfl ?_
          rw [show M 191 (60 + a) = 2 from ((hS _ (by omega) (by omega)).trans (gS0_bed (by omega) (by omega)))]
          refine g_istore (n := 58) (L' := [(4, gJ 2), (3, gJ (60 + a)), (0, gA n0 190), (1, gJ a), (2, gJ b)]) X dX12_house_56 (by decide) rfl rfl ?_
          refine g_aload_n (n := 59) X 2 dX12_house_58 rfl rfl rfl ?_
          refine gg_12_1 (n := 62) (z := 191) X (by omega) (by omega) lay_190 kw_6_27 dX12_house_59 rfl f_190_1 (by omega) ?_
          refine g_iload_n (n := 63) X 1 dX12_house_62 rfl rfl rfl ?_
          refine g_iload_n (n := 64) X 4 dX12_house_63 rfl rfl rfl ?_
          refine g_iast (n := 65) X (by omega) (by omega) lay_191 (by omega) (by omega) (by omega) dX12_house_64 rfl ?_
          refine G.nm (fun M11 e12 => ?_)
          refine g_iload (n := 67) X 0 dX12_house_65 rfl rfl ?_
          exact g_ireturn X hr dX12_house_67 (by exact ⟨by omega, fun a h0 => ((congrFun e12 a).trans ((gset_off a (by omega)).trans rfl))⟩)
        · refine g_bipush (n := 42) X dX12_house_40 (by decide +kernel) rfl ?_
          refine g_goto (tgt := 49) X dX12_house_42 (by decide) ?_
          refine g_istore_n (n := 50) (L' := [(3, gJ 8), (0, gA n0 190), (1, gJ a), (2, gJ b)]) X dX12_house_49 rfl (by decide) rfl rfl ?_
          refine g_aload_n (n := 51) X 1 dX12_house_50 rfl rfl rfl ?_
          refine gg_12_1 (n := 54) (z := 191) X (by omega) (by omega) lay_190 kw_6_27 dX12_house_51 rfl f_190_1 (by omega) ?_
          refine g_iload_n (n := 55) X 0 dX12_house_54 rfl rfl rfl ?_
          refine g_iald (n := 56) X (by omega) (by omega) lay_191 (by omega) (by omega) (by omega) dX12_house_55 rfl ?_
          rw [show M 191 8 = 0 from ((hS 8 (by omega) (by omega)).trans (by decide))]
          refine g_istore (n := 58) (L' := [(4, gJ 0), (3, gJ 8), (0, gA n0 190), (1, gJ a), (2, gJ b)]) X dX12_house_56 (by decide) rfl rfl ?_
          refine g_aload_n (n := 59) X 2 dX12_house_58 rfl rfl rfl ?_
          refine gg_12_1 (n := 62) (z := 191) X (by omega) (by omega) lay_190 kw_6_27 dX12_house_59 rfl f_190_1 (by omega) ?_
          refine g_iload_n (n := 63) X 1 dX12_house_62 rfl rfl rfl ?_
          refine g_iload_n (n := 64) X 4 dX12_house_63 rfl rfl rfl ?_
          refine g_iast (n := 65) X (by omega) (by omega) lay_191 (by omega) (by omega) (by omega) dX12_house_64 rfl ?_
          refine G.nm (fun M13 e14 => ?_)
          refine g_iload (n := 67) X 0 dX12_house_65 rfl rfl ?_
          exact g_ireturn X hr dX12_house_67 (by exact ⟨by omega, fun a h0 => ((congrFun e14 a).trans ((gset_off a (by omega)).trans rfl))⟩)
      · refine g_bipush (n := 34) X dX12_house_32 (by decide +kernel) rfl ?_
        exact g_ireturn X hr dX12_house_34 (by exact ⟨by omega, fun a h0 => rfl⟩)
    · refine g_sipush (n := 21) X dX12_house_18 (by decide +kernel) rfl ?_
      refine g_goto (tgt := 26) X dX12_house_21 (by decide) ?_
      refine g_callSi (n := 29) (As := [gJ b, gJ 0, gJ 9999]) (rest := []) (cs1 := 0) (ss1 := 0) X (c_X12_in b 0 9999 (by omega) (by omega) (by omega) (by omega)) okX12_in kw_6_106 kw_6_107 ⟨rfl, rfl⟩ ⟨Nat.le_of_ble_eq_true rfl, Nat.le_of_ble_eq_true rfl⟩ rfl rfl (Nat.le_of_ble_eq_true rfl) ⟨Nat.le_of_ble_eq_true rfl, Nat.le_of_ble_eq_true rfl⟩ rfl rfl dX12_house_26 rfl (fun z15 M16 P17 => ?_)
      obtain ⟨rfl, P17⟩ := P17
      refine g_if_ne (n := 32) (tgt := 35) X dX12_house_29 (by decide) (by omega) rfl (fun c18 => ?_) (fun c18 => ?_)
      · refine g_iload_n (n := 36) X 1 dX12_house_35 rfl rfl rfl ?_
        refine g_iconst (n := 37) X dX12_house_36 rfl ?_
        refine g_icmp_ne (n := 40) (tgt := 45) X dX12_house_37 (by decide) (by omega) (by omega) rfl (fun c19 => ?_) (fun c19 => ?_)
        · refine g_bipush (n := 47) X dX12_house_45 (by decide +kernel) rfl ?_
          refine g_iload_n (n := 48) X 1 dX12_house_47 rfl rfl rfl ?_
          refine g_iadd (n := 49) (z := 60 + a) X dX12_house_48 rfl rfl ?_
          refine g_istore_n (n := 50) (L' := [(3, gJ (60 + a)), (0, gA n0 190), (1, gJ a), (2, gJ b)]) X dX12_house_49 rfl (by decide) rfl rfl ?_
          refine g_aload_n (n := 51) X 1 dX12_house_50 rfl rfl rfl ?_
          refine gg_12_1 (n := 54) (z := 191) X (by omega) (by omega) lay_190 kw_6_27 dX12_house_51 rfl f_190_1 (by omega) ?_
          refine g_iload_n (n := 55) X 0 dX12_house_54 rfl rfl rfl ?_
          refine g_iald (n := 56) X (by omega) (by omega) lay_191 (by omega) (by omega) (by omega) dX12_house_55 rfl ?_
          rw [show M 191 (60 + a) = 2 from ((hS _ (by omega) (by omega)).trans (gS0_bed (by omega) (by omega)))]
          refine g_istore (n := 58) (L' := [(4, gJ 2), (3, gJ (60 + a)), (0, gA n0 190), (1, gJ a), (2, gJ b)]) X dX12_house_56 (by decide) rfl rfl ?_
          refine g_aload_n (n := 59) X 2 dX12_house_58 rfl rfl rfl ?_
          refine gg_12_1 (n := 62) (z := 191) X (by omega) (by omega) lay_190 kw_6_27 dX12_house_59 rfl f_190_1 (by omega) ?_
          refine g_iload_n (n := 63) X 1 dX12_house_62 rfl rfl rfl ?_
          refine g_iload_n (n := 64) X 4 dX12_house_63 rfl rfl rfl ?_
          refine g_iast (n := 65) X (by omega) (by omega) lay_191 (by omega) (by omega) (by omega) dX12_house_64 rfl ?_
          refine G.nm (fun M20 e21 => ?_)
          refine g_iload (n := 67) X 0 dX12_house_65 rfl rfl ?_
          exact g_ireturn X hr dX12_house_67 (by exact ⟨by omega, fun a h0 => ((congrFun e21 a).trans ((gset_off a (by omega)).trans rfl))⟩)
        · refine g_bipush (n := 42) X dX12_house_40 (by decide +kernel) rfl ?_
          refine g_goto (tgt := 49) X dX12_house_42 (by decide) ?_
          refine g_istore_n (n := 50) (L' := [(3, gJ 8), (0, gA n0 190), (1, gJ a), (2, gJ b)]) X dX12_house_49 rfl (by decide) rfl rfl ?_
          refine g_aload_n (n := 51) X 1 dX12_house_50 rfl rfl rfl ?_
          refine gg_12_1 (n := 54) (z := 191) X (by omega) (by omega) lay_190 kw_6_27 dX12_house_51 rfl f_190_1 (by omega) ?_
          refine g_iload_n (n := 55) X 0 dX12_house_54 rfl rfl rfl ?_
          refine g_iald (n := 56) X (by omega) (by omega) lay_191 (by omega) (by omega) (by omega) dX12_house_55 rfl ?_
          rw [show M 191 8 = 0 from ((hS 8 (by omega) (by omega)).trans (by decide))]
          refine g_istore (n := 58) (L' := [(4, gJ 0), (3, gJ 8), (0, gA n0 190), (1, gJ a), (2, gJ b)]) X dX12_house_56 (by decide) rfl rfl ?_
          refine g_aload_n (n := 59) X 2 dX12_house_58 rfl rfl rfl ?_
          refine gg_12_1 (n := 62) (z := 191) X (by omega) (by omega) lay_190 kw_6_27 dX12_house_59 rfl f_190_1 (by omega) ?_
          refine g_iload_n (n := 63) X 1 dX12_house_62 rfl rfl rfl ?_
          refine g_iload_n (n := 64) X 4 dX12_house_63 rfl rfl rfl ?_
          refine g_iast (n := 65) X (by omega) (by omega) lay_191 (by omega) (by omega) (by omega) dX12_house_64 rfl ?_
          refine G.nm (fun M22 e23 => ?_)
          refine g_iload (n := 67) X 0 dX12_house_65 rfl rfl ?_
          exact g_ireturn X hr dX12_house_67 (by exact ⟨by omega, fun a h0 => ((congrFun e23 a).trans ((gset_off a (by omega)).trans rfl))⟩)
      · refine g_bipush (n := 34) X dX12_house_32 (by decide +kernel) rfl ?_
        exact g_ireturn X hr dX12_house_34 (by exact ⟨by omega, fun a h0 => rfl⟩)
  · refine g_iconst (n := 10) X dX12_house_9 rfl ?_
    exact g_ireturn X hr dX12_house_10 (by exact ⟨by omega, fun a h0 => rfl⟩)
theorem dX12_frost_0 : decode cX12_frost 0 = .ok (.iload_n 1, 1) := by decide +kernel
theorem dX12_frost_1 : decode cX12_frost 1 = .ok (.invokestatic 220, 3) := by decide +kernel
theorem kw_6_236 : (Jvm.Cond.methodLink "ParishUnionModel" (220 : Nat) ({ cls := "ParishUnionModel", name := "isWeek", desc := "(I)Z" } : Jvm.MethodName)) ∈ gT := gT_of (tb_6 _ (List.mem_of_getElem? (i := 236) rfl)) rfl
theorem kw_6_238 : (Jvm.Cond.code ({ cls := "ParishUnionModel", name := "isWeek", desc := "(I)Z" } : Jvm.MethodName) prog_14_method_8_code (1 : Nat) (Option.some Jvm.ClassFile.FieldType.boolean)) ∈ gT := gT_of (tb_6 _ (List.mem_of_getElem? (i := 238) rfl)) rfl
theorem okX12_isWeek : gQok yX12_isWeek cX12_isWeek 1 (Option.some Jvm.ClassFile.FieldType.boolean) 1 := ⟨kw_6_238, kw_1_13, by decide +kernel, by decide +kernel, by decide +kernel⟩
theorem kw_6_237 : (Jvm.Cond.static ({ cls := "ParishUnionModel", name := "isWeek", desc := "(I)Z" } : Jvm.MethodName)) ∈ gT := gT_of (tb_6 _ (List.mem_of_getElem? (i := 237) rfl)) rfl
theorem dX12_frost_4 : decode cX12_frost 4 = .ok (.ifCond .eq 13, 3) := by decide +kernel
theorem dX12_frost_17 : decode cX12_frost 17 = .ok (.bipush (-2), 2) := by decide +kernel
theorem dX12_frost_19 : decode cX12_frost 19 = .ok (.ireturn, 1) := by decide +kernel
theorem dX12_frost_7 : decode cX12_frost 7 = .ok (.iload_n 2, 1) := by decide +kernel
theorem dX12_frost_8 : decode cX12_frost 8 = .ok (.iconst 0, 1) := by decide +kernel
theorem dX12_frost_9 : decode cX12_frost 9 = .ok (.bipush 9, 2) := by decide +kernel
theorem dX12_frost_11 : decode cX12_frost 11 = .ok (.invokestatic 64, 3) := by decide +kernel
theorem dX12_frost_14 : decode cX12_frost 14 = .ok (.ifCond .ne 6, 3) := by decide +kernel
theorem dX12_frost_20 : decode cX12_frost 20 = .ok (.iload_n 1, 1) := by decide +kernel
theorem dX12_frost_21 : decode cX12_frost 21 = .ok (.aload_n 0, 1) := by decide +kernel
theorem dX12_frost_22 : decode cX12_frost 22 = .ok (.getfield 7, 3) := by decide +kernel
theorem dX12_frost_25 : decode cX12_frost 25 = .ok (.iconst 0, 1) := by decide +kernel
theorem dX12_frost_26 : decode cX12_frost 26 = .ok (.iaload, 1) := by decide +kernel
theorem dX12_frost_27 : decode cX12_frost 27 = .ok (.if_icmp .ge 6, 3) := by decide +kernel
theorem dX12_frost_33 : decode cX12_frost 33 = .ok (.aload_n 0, 1) := by decide +kernel
theorem dX12_frost_34 : decode cX12_frost 34 = .ok (.getfield 7, 3) := by decide +kernel
theorem dX12_frost_37 : decode cX12_frost 37 = .ok (.sipush 2800, 3) := by decide +kernel
theorem dX12_frost_40 : decode cX12_frost 40 = .ok (.iload_n 1, 1) := by decide +kernel
theorem dX12_frost_41 : decode cX12_frost 41 = .ok (.iadd, 1) := by decide +kernel
theorem dX12_frost_42 : decode cX12_frost 42 = .ok (.iaload, 1) := by decide +kernel
theorem dX12_frost_43 : decode cX12_frost 43 = .ok (.istore_n 3, 1) := by decide +kernel
theorem dX12_frost_44 : decode cX12_frost 44 = .ok (.aload_n 0, 1) := by decide +kernel
theorem dX12_frost_45 : decode cX12_frost 45 = .ok (.getfield 7, 3) := by decide +kernel
theorem dX12_frost_48 : decode cX12_frost 48 = .ok (.sipush 2800, 3) := by decide +kernel
theorem dX12_frost_51 : decode cX12_frost 51 = .ok (.iload_n 1, 1) := by decide +kernel
theorem dX12_frost_52 : decode cX12_frost 52 = .ok (.iadd, 1) := by decide +kernel
theorem dX12_frost_53 : decode cX12_frost 53 = .ok (.iload_n 2, 1) := by decide +kernel
theorem dX12_frost_54 : decode cX12_frost 54 = .ok (.iastore, 1) := by decide +kernel
theorem dX12_frost_55 : decode cX12_frost 55 = .ok (.iload_n 3, 1) := by decide +kernel
theorem dX12_frost_56 : decode cX12_frost 56 = .ok (.ireturn, 1) := by decide +kernel
theorem dX12_frost_30 : decode cX12_frost 30 = .ok (.bipush (-3), 2) := by decide +kernel
theorem dX12_frost_32 : decode cX12_frost 32 = .ok (.ireturn, 1) := by decide +kernel
set_option maxRecDepth 100000 in
set_option maxHeartbeats 4000000 in
theorem c_X12_frost {l : Launch} {n0 : Nat} {D : va_G} {cA : Nat → ClassId} {M : gM} (a b : Int) (r_a : -2147483648 ≤ a ∧ a ≤ 2147483647) (r_b : -2147483648 ≤ b ∧ b ≤ 2147483647) {sz : Nat} (hsz : 206 ≤ sz) (f_190_1 : M 190 1 = 192) (hS : ∀ i : Int, 0 ≤ i → i < 25301 → M 191 i = gS0 i) : Met l yX12_frost (gWsOf yX12_frost cX12_frost 4 (Option.some Jvm.ClassFile.FieldType.int)) { frames := 2, cells := 0, slots := 0, locals := 42 } (gPc n0 D cA [gA n0 190, gJ a, gJ b] M sz) (gQi n0 D cA sz (fun z M1 => (((¬(0 ≤ a ∧ a ≤ 300) ∨ ¬(0 ≤ b ∧ b ≤ 9)) → z = -2) ∧ (¬(¬(0 ≤ a ∧ a ≤ 300) ∨ ¬(0 ≤ b ∧ b ≤ 9)) → (z = 0))) ∧ ∀ a : Int, a ≠ 191 → M1 a = M a)) 0 0 (fun q => n0 ≤ q) := by
  refine gMet_of [gA n0 190, gJ a, gJ b] (by decide) (Nat.le_of_ble_eq_true rfl) ?_
  intro p e s m args below meth cd X hr hm
  have X : gCx p s m args meth cd n0 D cA "ParishUnionModel" cX12_frost 4 := X
  show G p l e ({ frames := 2, cells := 0, slots := 0, locals := 42 } : Room) s m args below meth cd n0 D cA 4 (MQ below (gQi n0 D cA sz (fun z M1 => (((¬(0 ≤ a ∧ a ≤ 300) ∨ ¬(0 ≤ b ∧ b ≤ 9)) → z = -2) ∧ (¬(¬(0 ≤ a ∧ a ≤ 300) ∨ ¬(0 ≤ b ∧ b ≤ 9)) → (z = 0))) ∧ ∀ a : Int, a ≠ 191 → M1 a = M a)) args s 0 0 (fun q => n0 ≤ q)) 0 0 M sz 0 [(0, gA n0 190), (1, gJ a), (2, gJ b)] []
  refine g_iload_n (n := 1) X 1 dX12_frost_0 rfl rfl rfl ?_
  refine g_callSi (n := 4) (As := [gJ a]) (rest := []) (cs1 := 0) (ss1 := 0) X (c_X12_isWeek a (by omega) (by omega)) okX12_isWeek kw_6_236 kw_6_237 ⟨rfl, rfl⟩ ⟨Nat.le_of_ble_eq_true rfl, Nat.le_of_ble_eq_true rfl⟩ rfl rfl (Nat.le_of_ble_eq_true rfl) ⟨Nat.le_of_ble_eq_true rfl, Nat.le_of_ble_eq_true rfl⟩ rfl rfl dX12_frost_1 rfl (fun z1 M2 P3 => ?_)
  obtain ⟨rfl, P3⟩ := P3
  refine g_if_eq (n := 7) (tgt := 17) X dX12_frost_4 (by decide) (by omega) rfl (fun c4 => ?_) (fun c4 => ?_)
  · refine g_bipush (n := 19) X dX12_frost_17 (by decide +kernel) rfl ?_
    exact g_ireturn X hr dX12_frost_19 (by exact ⟨by omega, fun a h0 => rfl⟩)
  · refine g_iload_n (n := 8) X 2 dX12_frost_7 rfl rfl rfl ?_
    refine g_iconst (n := 9) X dX12_frost_8 rfl ?_
    refine g_bipush (n := 11) X dX12_frost_9 (by decide +kernel) rfl ?_
    refine g_callSi (n := 14) (As := [gJ b, gJ 0, gJ 9]) (rest := []) (cs1 := 0) (ss1 := 0) X (c_X12_in b 0 9 (by omega) (by omega) (by omega) (by omega)) okX12_in kw_6_106 kw_6_107 ⟨rfl, rfl⟩ ⟨Nat.le_of_ble_eq_true rfl, Nat.le_of_ble_eq_true rfl⟩ rfl rfl (Nat.le_of_ble_eq_true rfl) ⟨Nat.le_of_ble_eq_true rfl, Nat.le_of_ble_eq_true rfl⟩ rfl rfl dX12_frost_11 rfl (fun z5 M6 P7 => ?_)
    obtain ⟨rfl, P7⟩ := P7
    refine g_if_ne (n := 17) (tgt := 20) X dX12_frost_14 (by decide) (by omega) rfl (fun c8 => ?_) (fun c8 => ?_)
    · refine g_iload_n (n := 21) X 1 dX12_frost_20 rfl rfl rfl ?_
      refine g_aload_n (n := 22) X 0 dX12_frost_21 rfl rfl rfl ?_
      refine gg_12_1 (n := 25) (z := 191) X (by omega) (by omega) lay_190 kw_6_27 dX12_frost_22 rfl f_190_1 (by omega) ?_
      refine g_iconst (n := 26) X dX12_frost_25 rfl ?_
      refine g_iald (n := 27) X (by omega) (by omega) lay_191 (by omega) (by omega) (by omega) dX12_frost_26 rfl ?_
      rw [show M 191 0 = 0 from ((hS 0 (by omega) (by omega)).trans (by decide))]
      refine g_icmp_ge (n := 30) (tgt := 33) X dX12_frost_27 (by decide) (by omega) (by omega) rfl (fun c9 => ?_) (fun c9 => ?_)
      · refine g_aload_n (n := 34) X 0 dX12_frost_33 rfl rfl rfl ?_
        refine gg_12_1 (n := 37) (z := 191) X (by omega) (by omega) lay_190 kw_6_27 dX12_frost_34 rfl f_190_1 (by omega) ?_
        refine g_sipush (n := 40) X dX12_frost_37 (by decide +kernel) rfl ?_
        refine g_iload_n (n := 41) X 1 dX12_frost_40 rfl rfl rfl ?_
        refine g_iadd (n := 42) (z := 2800 + a) X dX12_frost_41 rfl rfl ?_
        refine g_iald (n := 43) X (by omega) (by omega) lay_191 (by omega) (by omega) (by omega) dX12_frost_42 rfl ?_
        rw [show M 191 (2800 + a) = 0 from ((hS _ (by omega) (by omega)).trans (gS0_zero (by omega)))]
        refine g_istore_n (n := 44) (L' := [(3, gJ 0), (0, gA n0 190), (1, gJ a), (2, gJ b)]) X dX12_frost_43 rfl (by decide) rfl rfl ?_
        refine g_aload_n (n := 45) X 1 dX12_frost_44 rfl rfl rfl ?_
        refine gg_12_1 (n := 48) (z := 191) X (by omega) (by omega) lay_190 kw_6_27 dX12_frost_45 rfl f_190_1 (by omega) ?_
        refine g_sipush (n := 51) X dX12_frost_48 (by decide +kernel) rfl ?_
        refine g_iload_n (n := 52) X 2 dX12_frost_51 rfl rfl rfl ?_
        refine g_iadd (n := 53) (z := 2800 + a) X dX12_frost_52 rfl rfl ?_
        refine g_iload_n (n := 54) X 3 dX12_frost_53 rfl rfl rfl ?_
        refine g_iast (n := 55) X (by omega) (by omega) lay_191 (by omega) (by omega) (by omega) dX12_frost_54 rfl ?_
        refine G.nm (fun M10 e11 => ?_)
        refine g_iload_n (n := 56) X 0 dX12_frost_55 rfl rfl rfl ?_
        exact g_ireturn X hr dX12_frost_56 (by exact ⟨by omega, fun a h0 => ((congrFun e11 a).trans ((gset_off a (by omega)).trans rfl))⟩)
      · refine g_bipush (n := 32) X dX12_frost_30 (by decide +kernel) rfl ?_
        exact g_ireturn X hr dX12_frost_32 (by exact ⟨by omega, fun a h0 => rfl⟩)
    · refine g_bipush (n := 19) X dX12_frost_17 (by decide +kernel) rfl ?_
      exact g_ireturn X hr dX12_frost_19 (by exact ⟨by omega, fun a h0 => rfl⟩)
theorem dX12_person_0 : decode cX12_person 0 = .ok (.iload_n 3, 1) := by decide +kernel
theorem dX12_person_1 : decode cX12_person 1 = .ok (.invokestatic 68, 3) := by decide +kernel
theorem dX12_person_4 : decode cX12_person 4 = .ok (.ifCond .eq 18, 3) := by decide +kernel
theorem dX12_person_22 : decode cX12_person 22 = .ok (.iconst (-1), 1) := by decide +kernel
theorem dX12_person_23 : decode cX12_person 23 = .ok (.ireturn, 1) := by decide +kernel
theorem dX12_person_7 : decode cX12_person 7 = .ok (.iload 4, 2) := by decide +kernel
theorem dX12_person_9 : decode cX12_person 9 = .ok (.iconst (-1), 1) := by decide +kernel
theorem dX12_person_10 : decode cX12_person 10 = .ok (.if_icmp .eq 14, 3) := by decide +kernel
theorem dX12_person_24 : decode cX12_person 24 = .ok (.iload 4, 2) := by decide +kernel
theorem dX12_person_26 : decode cX12_person 26 = .ok (.iconst (-1), 1) := by decide +kernel
theorem dX12_person_27 : decode cX12_person 27 = .ok (.if_icmp .eq 30, 3) := by decide +kernel
theorem dX12_person_57 : decode cX12_person 57 = .ok (.iconst 1, 1) := by decide +kernel
theorem dX12_person_58 : decode cX12_person 58 = .ok (.goto 4, 3) := by decide +kernel
theorem dX12_person_62 : decode cX12_person 62 = .ok (.istore 6, 2) := by decide +kernel
theorem dX12_person_64 : decode cX12_person 64 = .ok (.iload_n 1, 1) := by decide +kernel
theorem dX12_person_65 : decode cX12_person 65 = .ok (.iconst 0, 1) := by decide +kernel
theorem dX12_person_66 : decode cX12_person 66 = .ok (.iconst 1, 1) := by decide +kernel
theorem dX12_person_67 : decode cX12_person 67 = .ok (.invokestatic 64, 3) := by decide +kernel
theorem dX12_person_70 : decode cX12_person 70 = .ok (.ifCond .eq 35, 3) := by decide +kernel
theorem dX12_person_105 : decode cX12_person 105 = .ok (.bipush (-2), 2) := by decide +kernel
theorem dX12_person_107 : decode cX12_person 107 = .ok (.ireturn, 1) := by decide +kernel
theorem dX12_person_73 : decode cX12_person 73 = .ok (.iload_n 2, 1) := by decide +kernel
theorem dX12_person_74 : decode cX12_person 74 = .ok (.sipush (-3000), 3) := by decide +kernel
theorem dX12_person_77 : decode cX12_person 77 = .ok (.aload_n 0, 1) := by decide +kernel
theorem dX12_person_78 : decode cX12_person 78 = .ok (.getfield 7, 3) := by decide +kernel
theorem dX12_person_81 : decode cX12_person 81 = .ok (.iconst 0, 1) := by decide +kernel
theorem dX12_person_82 : decode cX12_person 82 = .ok (.iaload, 1) := by decide +kernel
theorem dX12_person_83 : decode cX12_person 83 = .ok (.invokestatic 64, 3) := by decide +kernel
theorem dX12_person_86 : decode cX12_person 86 = .ok (.ifCond .eq 19, 3) := by decide +kernel
theorem dX12_person_89 : decode cX12_person 89 = .ok (.iload 6, 2) := by decide +kernel
theorem dX12_person_91 : decode cX12_person 91 = .ok (.ifCond .eq 14, 3) := by decide +kernel
theorem dX12_person_94 : decode cX12_person 94 = .ok (.iload 5, 2) := by decide +kernel
theorem dX12_person_96 : decode cX12_person 96 = .ok (.iconst 0, 1) := by decide +kernel
theorem dX12_person_97 : decode cX12_person 97 = .ok (.bipush 9, 2) := by decide +kernel
theorem dX12_person_99 : decode cX12_person 99 = .ok (.invokestatic 64, 3) := by decide +kernel
theorem dX12_person_102 : decode cX12_person 102 = .ok (.ifCond .ne 6, 3) := by decide +kernel
theorem dX12_person_108 : decode cX12_person 108 = .ok (.aload_n 0, 1) := by decide +kernel
theorem dX12_person_109 : decode cX12_person 109 = .ok (.getfield 7, 3) := by decide +kernel
theorem dX12_person_112 : decode cX12_person 112 = .ok (.iconst 1, 1) := by decide +kernel
theorem dX12_person_113 : decode cX12_person 113 = .ok (.iaload, 1) := by decide +kernel
theorem dX12_person_114 : decode cX12_person 114 = .ok (.bipush 16, 2) := by decide +kernel
theorem dX12_person_116 : decode cX12_person 116 = .ok (.if_icmp .ne 6, 3) := by decide +kernel
theorem dX12_person_122 : decode cX12_person 122 = .ok (.aload_n 0, 1) := by decide +kernel
theorem dX12_person_123 : decode cX12_person 123 = .ok (.getfield 7, 3) := by decide +kernel
theorem dX12_person_126 : decode cX12_person 126 = .ok (.iconst 1, 1) := by decide +kernel
theorem dX12_person_127 : decode cX12_person 127 = .ok (.iaload, 1) := by decide +kernel
theorem dX12_person_128 : decode cX12_person 128 = .ok (.istore 7, 2) := by decide +kernel
theorem dX12_person_130 : decode cX12_person 130 = .ok (.aload_n 0, 1) := by decide +kernel
theorem dX12_person_131 : decode cX12_person 131 = .ok (.getfield 7, 3) := by decide +kernel
theorem dX12_person_134 : decode cX12_person 134 = .ok (.bipush 80, 2) := by decide +kernel
theorem dX12_person_136 : decode cX12_person 136 = .ok (.iload 7, 2) := by decide +kernel
theorem dX12_person_138 : decode cX12_person 138 = .ok (.iadd, 1) := by decide +kernel
theorem dX12_person_139 : decode cX12_person 139 = .ok (.iload_n 1, 1) := by decide +kernel
theorem dX12_person_140 : decode cX12_person 140 = .ok (.iastore, 1) := by decide +kernel
theorem dX12_person_141 : decode cX12_person 141 = .ok (.aload_n 0, 1) := by decide +kernel
theorem dX12_person_142 : decode cX12_person 142 = .ok (.getfield 7, 3) := by decide +kernel
theorem dX12_person_145 : decode cX12_person 145 = .ok (.bipush 96, 2) := by decide +kernel
theorem dX12_person_147 : decode cX12_person 147 = .ok (.iload 7, 2) := by decide +kernel
theorem dX12_person_149 : decode cX12_person 149 = .ok (.iadd, 1) := by decide +kernel
theorem dX12_person_150 : decode cX12_person 150 = .ok (.iload_n 2, 1) := by decide +kernel
theorem dX12_person_151 : decode cX12_person 151 = .ok (.iastore, 1) := by decide +kernel
theorem dX12_person_152 : decode cX12_person 152 = .ok (.aload_n 0, 1) := by decide +kernel
theorem dX12_person_153 : decode cX12_person 153 = .ok (.getfield 7, 3) := by decide +kernel
theorem dX12_person_156 : decode cX12_person 156 = .ok (.bipush 112, 2) := by decide +kernel
theorem dX12_person_158 : decode cX12_person 158 = .ok (.iload 7, 2) := by decide +kernel
theorem dX12_person_160 : decode cX12_person 160 = .ok (.iadd, 1) := by decide +kernel
theorem dX12_person_161 : decode cX12_person 161 = .ok (.iload_n 3, 1) := by decide +kernel
theorem dX12_person_162 : decode cX12_person 162 = .ok (.iastore, 1) := by decide +kernel
theorem dX12_person_163 : decode cX12_person 163 = .ok (.aload_n 0, 1) := by decide +kernel
theorem dX12_person_164 : decode cX12_person 164 = .ok (.getfield 7, 3) := by decide +kernel
theorem dX12_person_167 : decode cX12_person 167 = .ok (.sipush 128, 3) := by decide +kernel
theorem dX12_person_170 : decode cX12_person 170 = .ok (.iload 7, 2) := by decide +kernel
theorem dX12_person_172 : decode cX12_person 172 = .ok (.iadd, 1) := by decide +kernel
theorem dX12_person_173 : decode cX12_person 173 = .ok (.iload 4, 2) := by decide +kernel
theorem dX12_person_175 : decode cX12_person 175 = .ok (.iastore, 1) := by decide +kernel
theorem dX12_person_176 : decode cX12_person 176 = .ok (.aload_n 0, 1) := by decide +kernel
theorem dX12_person_177 : decode cX12_person 177 = .ok (.getfield 7, 3) := by decide +kernel
theorem dX12_person_180 : decode cX12_person 180 = .ok (.sipush 144, 3) := by decide +kernel
theorem dX12_person_183 : decode cX12_person 183 = .ok (.iload 7, 2) := by decide +kernel
theorem dX12_person_185 : decode cX12_person 185 = .ok (.iadd, 1) := by decide +kernel
theorem dX12_person_186 : decode cX12_person 186 = .ok (.iload 5, 2) := by decide +kernel
theorem dX12_person_188 : decode cX12_person 188 = .ok (.iastore, 1) := by decide +kernel
theorem dX12_person_189 : decode cX12_person 189 = .ok (.aload_n 0, 1) := by decide +kernel
theorem dX12_person_190 : decode cX12_person 190 = .ok (.getfield 7, 3) := by decide +kernel
theorem dX12_person_193 : decode cX12_person 193 = .ok (.sipush 160, 3) := by decide +kernel
theorem dX12_person_196 : decode cX12_person 196 = .ok (.iload 7, 2) := by decide +kernel
theorem dX12_person_198 : decode cX12_person 198 = .ok (.iadd, 1) := by decide +kernel
theorem dX12_person_199 : decode cX12_person 199 = .ok (.iload_n 3, 1) := by decide +kernel
theorem dX12_person_200 : decode cX12_person 200 = .ok (.iastore, 1) := by decide +kernel
theorem dX12_person_201 : decode cX12_person 201 = .ok (.aload_n 0, 1) := by decide +kernel
theorem dX12_person_202 : decode cX12_person 202 = .ok (.getfield 7, 3) := by decide +kernel
theorem dX12_person_205 : decode cX12_person 205 = .ok (.sipush 176, 3) := by decide +kernel
theorem dX12_person_208 : decode cX12_person 208 = .ok (.iload 7, 2) := by decide +kernel
theorem dX12_person_210 : decode cX12_person 210 = .ok (.iadd, 1) := by decide +kernel
theorem dX12_person_211 : decode cX12_person 211 = .ok (.iconst 0, 1) := by decide +kernel
theorem dX12_person_212 : decode cX12_person 212 = .ok (.iastore, 1) := by decide +kernel
theorem dX12_person_213 : decode cX12_person 213 = .ok (.aload_n 0, 1) := by decide +kernel
theorem dX12_person_214 : decode cX12_person 214 = .ok (.getfield 7, 3) := by decide +kernel
theorem dX12_person_217 : decode cX12_person 217 = .ok (.sipush 192, 3) := by decide +kernel
theorem dX12_person_220 : decode cX12_person 220 = .ok (.iload 7, 2) := by decide +kernel
theorem dX12_person_222 : decode cX12_person 222 = .ok (.iadd, 1) := by decide +kernel
theorem dX12_person_223 : decode cX12_person 223 = .ok (.iconst 0, 1) := by decide +kernel
theorem dX12_person_224 : decode cX12_person 224 = .ok (.iastore, 1) := by decide +kernel
theorem dX12_person_225 : decode cX12_person 225 = .ok (.aload_n 0, 1) := by decide +kernel
theorem dX12_person_226 : decode cX12_person 226 = .ok (.getfield 7, 3) := by decide +kernel
theorem dX12_person_229 : decode cX12_person 229 = .ok (.sipush 208, 3) := by decide +kernel
theorem dX12_person_232 : decode cX12_person 232 = .ok (.iload 7, 2) := by decide +kernel
theorem dX12_person_234 : decode cX12_person 234 = .ok (.iadd, 1) := by decide +kernel
theorem dX12_person_235 : decode cX12_person 235 = .ok (.iconst (-1), 1) := by decide +kernel
theorem dX12_person_236 : decode cX12_person 236 = .ok (.iastore, 1) := by decide +kernel
theorem dX12_person_237 : decode cX12_person 237 = .ok (.aload_n 0, 1) := by decide +kernel
theorem dX12_person_238 : decode cX12_person 238 = .ok (.getfield 7, 3) := by decide +kernel
theorem dX12_person_241 : decode cX12_person 241 = .ok (.sipush 224, 3) := by decide +kernel
theorem dX12_person_244 : decode cX12_person 244 = .ok (.iload 7, 2) := by decide +kernel
theorem dX12_person_246 : decode cX12_person 246 = .ok (.iadd, 1) := by decide +kernel
theorem dX12_person_247 : decode cX12_person 247 = .ok (.iconst (-1), 1) := by decide +kernel
theorem dX12_person_248 : decode cX12_person 248 = .ok (.iastore, 1) := by decide +kernel
theorem dX12_person_249 : decode cX12_person 249 = .ok (.aload_n 0, 1) := by decide +kernel
theorem dX12_person_250 : decode cX12_person 250 = .ok (.getfield 7, 3) := by decide +kernel
theorem dX12_person_253 : decode cX12_person 253 = .ok (.sipush 240, 3) := by decide +kernel
theorem dX12_person_256 : decode cX12_person 256 = .ok (.iload 7, 2) := by decide +kernel
theorem dX12_person_258 : decode cX12_person 258 = .ok (.iadd, 1) := by decide +kernel
theorem dX12_person_259 : decode cX12_person 259 = .ok (.iconst (-1), 1) := by decide +kernel
theorem dX12_person_260 : decode cX12_person 260 = .ok (.iastore, 1) := by decide +kernel
theorem dX12_person_261 : decode cX12_person 261 = .ok (.aload_n 0, 1) := by decide +kernel
theorem dX12_person_262 : decode cX12_person 262 = .ok (.getfield 7, 3) := by decide +kernel
theorem dX12_person_265 : decode cX12_person 265 = .ok (.iconst 1, 1) := by decide +kernel
theorem dX12_person_266 : decode cX12_person 266 = .ok (.dup2, 1) := by decide +kernel
theorem dX12_person_267 : decode cX12_person 267 = .ok (.iaload, 1) := by decide +kernel
theorem dX12_person_268 : decode cX12_person 268 = .ok (.iconst 1, 1) := by decide +kernel
theorem dX12_person_269 : decode cX12_person 269 = .ok (.iadd, 1) := by decide +kernel
theorem dX12_person_270 : decode cX12_person 270 = .ok (.iastore, 1) := by decide +kernel
theorem dX12_person_271 : decode cX12_person 271 = .ok (.aload_n 0, 1) := by decide +kernel
theorem dX12_person_272 : decode cX12_person 272 = .ok (.dup, 1) := by decide +kernel
theorem dX12_person_273 : decode cX12_person 273 = .ok (.getfield 44, 3) := by decide +kernel
theorem kw_6_45 : (Jvm.Cond.fieldLink "ParishUnionModel" (44 : Nat) "ParishUnionModel" "stamp" "I") ∈ gT := gT_of (tb_6 _ (List.mem_of_getElem? (i := 45) rfl)) rfl
theorem dX12_person_276 : decode cX12_person 276 = .ok (.iconst 1, 1) := by decide +kernel
theorem dX12_person_277 : decode cX12_person 277 = .ok (.iadd, 1) := by decide +kernel
theorem dX12_person_278 : decode cX12_person 278 = .ok (.putfield 44, 3) := by decide +kernel
theorem dX12_person_281 : decode cX12_person 281 = .ok (.iload 7, 2) := by decide +kernel
theorem dX12_person_283 : decode cX12_person 283 = .ok (.ireturn, 1) := by decide +kernel
theorem dX12_person_30 : decode cX12_person 30 = .ok (.aload_n 0, 1) := by decide +kernel
theorem dX12_person_31 : decode cX12_person 31 = .ok (.getfield 7, 3) := by decide +kernel
theorem dX12_person_34 : decode cX12_person 34 = .ok (.bipush 80, 2) := by decide +kernel
theorem dX12_person_36 : decode cX12_person 36 = .ok (.iload 4, 2) := by decide +kernel
theorem dX12_person_38 : decode cX12_person 38 = .ok (.iadd, 1) := by decide +kernel
theorem dX12_person_39 : decode cX12_person 39 = .ok (.iaload, 1) := by decide +kernel
theorem dX12_person_40 : decode cX12_person 40 = .ok (.ifCond .ne 21, 3) := by decide +kernel
theorem dX12_person_61 : decode cX12_person 61 = .ok (.iconst 0, 1) := by decide +kernel
theorem dX12_person_43 : decode cX12_person 43 = .ok (.aload_n 0, 1) := by decide +kernel
theorem dX12_person_44 : decode cX12_person 44 = .ok (.getfield 7, 3) := by decide +kernel
theorem dX12_person_47 : decode cX12_person 47 = .ok (.bipush 96, 2) := by decide +kernel
theorem dX12_person_49 : decode cX12_person 49 = .ok (.iload 4, 2) := by decide +kernel
theorem dX12_person_51 : decode cX12_person 51 = .ok (.iadd, 1) := by decide +kernel
theorem dX12_person_52 : decode cX12_person 52 = .ok (.iaload, 1) := by decide +kernel
theorem dX12_person_53 : decode cX12_person 53 = .ok (.iload_n 2, 1) := by decide +kernel
theorem dX12_person_54 : decode cX12_person 54 = .ok (.if_icmp .ge 7, 3) := by decide +kernel
theorem dX12_person_13 : decode cX12_person 13 = .ok (.aload_n 0, 1) := by decide +kernel
theorem dX12_person_14 : decode cX12_person 14 = .ok (.iload 4, 2) := by decide +kernel
theorem dX12_person_16 : decode cX12_person 16 = .ok (.invokevirtual 76, 3) := by decide +kernel
theorem dX12_person_19 : decode cX12_person 19 = .ok (.ifCond .ne 5, 3) := by decide +kernel
set_option maxRecDepth 100000 in
set_option maxHeartbeats 4000000 in
theorem c_X12_person {l : Launch} {n0 : Nat} {D : va_G} {cA : Nat → ClassId} {M : gM} (a b c d f : Int) (r_a : -2147483648 ≤ a ∧ a ≤ 2147483647) (r_b : -2147483648 ≤ b ∧ b ≤ 2147483647) (r_c : -2147483648 ≤ c ∧ c ≤ 2147483647) (r_d : -2147483648 ≤ d ∧ d ≤ 2147483647) (r_f : -2147483648 ≤ f ∧ f ≤ 2147483647) {sz : Nat} (hsz : 206 ≤ sz) (f_190_1 : M 190 1 = 192) (f_191_0 : M 191 0 = 0) (f_191_1 : M 191 1 = 0) (f_190_19 : M 190 19 = 1) : Met l yX12_person (gWsOf yX12_person cX12_person 8 (Option.some Jvm.ClassFile.FieldType.int)) { frames := 2, cells := 0, slots := 0, locals := 43 } (gPc n0 D cA [gA n0 190, gJ a, gJ b, gJ c, gJ d, gJ f] M sz) (gQi n0 D cA sz (fun z M1 => (((¬(0 ≤ c ∧ c ≤ 5) ∨ ¬ d = -1) → z = -1) ∧ (¬(¬(0 ≤ c ∧ c ≤ 5) ∨ ¬ d = -1) → (¬(0 ≤ a ∧ a ≤ 1) ∨ ¬(-3000 ≤ b ∧ b ≤ 0) ∨ ¬(0 ≤ f ∧ f ≤ 9)) → z = -2) ∧ (¬(¬(0 ≤ c ∧ c ≤ 5) ∨ ¬ d = -1) → ¬(¬(0 ≤ a ∧ a ≤ 1) ∨ ¬(-3000 ≤ b ∧ b ≤ 0) ∨ ¬(0 ≤ f ∧ f ≤ 9)) → (z = 0))) ∧ ∀ a : Int, a ≠ 190 → a ≠ 191 → M1 a = M a)) 0 0 (fun q => n0 ≤ q) := by
  refine gMet_of [gA n0 190, gJ a, gJ b, gJ c, gJ d, gJ f] (by decide) (Nat.le_of_ble_eq_true rfl) ?_
  intro p e s m args below meth cd X hr hm
  have X : gCx p s m args meth cd n0 D cA "ParishUnionModel" cX12_person 8 := X
  show G p l e ({ frames := 2, cells := 0, slots := 0, locals := 43 } : Room) s m args below meth cd n0 D cA 8 (MQ below (gQi n0 D cA sz (fun z M1 => (((¬(0 ≤ c ∧ c ≤ 5) ∨ ¬ d = -1) → z = -1) ∧ (¬(¬(0 ≤ c ∧ c ≤ 5) ∨ ¬ d = -1) → (¬(0 ≤ a ∧ a ≤ 1) ∨ ¬(-3000 ≤ b ∧ b ≤ 0) ∨ ¬(0 ≤ f ∧ f ≤ 9)) → z = -2) ∧ (¬(¬(0 ≤ c ∧ c ≤ 5) ∨ ¬ d = -1) → ¬(¬(0 ≤ a ∧ a ≤ 1) ∨ ¬(-3000 ≤ b ∧ b ≤ 0) ∨ ¬(0 ≤ f ∧ f ≤ 9)) → (z = 0))) ∧ ∀ a : Int, a ≠ 190 → a ≠ 191 → M1 a = M a)) args s 0 0 (fun q => n0 ≤ q)) 0 0 M sz 0 [(0, gA n0 190), (1, gJ a), (2, gJ b), (3, gJ c), (4, gJ d), (5, gJ f)] []
  refine g_iload_n (n := 1) X 3 dX12_person_0 rfl rfl rfl ?_
  refine g_callSi (n := 4) (As := [gJ c]) (rest := []) (cs1 := 0) (ss1 := 0) X (c_X12_isParish c (by omega) (by omega)) okX12_isParish kw_6_103 kw_6_104 ⟨rfl, rfl⟩ ⟨Nat.le_of_ble_eq_true rfl, Nat.le_of_ble_eq_true rfl⟩ rfl rfl (Nat.le_of_ble_eq_true rfl) ⟨Nat.le_of_ble_eq_true rfl, Nat.le_of_ble_eq_true rfl⟩ rfl rfl dX12_person_1 rfl (fun z1 M2 P3 => ?_)
  obtain ⟨rfl, P3⟩ := P3
  refine g_if_eq (n := 7) (tgt := 22) X dX12_person_4 (by decide) (by omega) rfl (fun c4 => ?_) (fun c4 => ?_)
  · refine g_iconst (n := 23) X dX12_person_22 rfl ?_
    exact g_ireturn X hr dX12_person_23 (by exact ⟨by omega, fun a h0 h1 => rfl⟩)
  · refine g_iload (n := 9) X 4 dX12_person_7 rfl rfl ?_
    refine g_iconst (n := 10) X dX12_person_9 rfl ?_
    refine g_icmp_eq (n := 13) (tgt := 24) X dX12_person_10 (by decide) (by omega) (by omega) rfl (fun c5 => ?_) (fun c5 => ?_)
    · refine g_iload (n := 26) X 4 dX12_person_24 rfl rfl ?_
      refine g_iconst (n := 27) X dX12_person_26 rfl ?_
      refine g_icmp_eq (n := 30) (tgt := 57) X dX12_person_27 (by decide) (by omega) (by omega) rfl (fun c6 => ?_) (fun c6 => ?_)
      · refine g_iconst (n := 58) X dX12_person_57 rfl ?_
        refine g_goto (tgt := 62) X dX12_person_58 (by decide) ?_
        refine g_istore (n := 64) (L' := [(6, gJ 1), (0, gA n0 190), (1, gJ a), (2, gJ b), (3, gJ c), (4, gJ d), (5, gJ f)]) X dX12_person_62 (by decide) rfl rfl ?_
        refine g_iload_n (n := 65) X 2 dX12_person_64 rfl rfl rfl ?_
        refine g_iconst (n := 66) X dX12_person_65 rfl ?_
        refine g_iconst (n := 67) X dX12_person_66 rfl ?_
        refine g_callSi (n := 70) (As := [gJ a, gJ 0, gJ 1]) (rest := []) (cs1 := 0) (ss1 := 0) X (c_X12_in a 0 1 (by omega) (by omega) (by omega) (by omega)) okX12_in kw_6_106 kw_6_107 ⟨rfl, rfl⟩ ⟨Nat.le_of_ble_eq_true rfl, Nat.le_of_ble_eq_true rfl⟩ rfl rfl (Nat.le_of_ble_eq_true rfl) ⟨Nat.le_of_ble_eq_true rfl, Nat.le_of_ble_eq_true rfl⟩ rfl rfl dX12_person_67 rfl (fun z7 M8 P9 => ?_)
        obtain ⟨rfl, P9⟩ := P9
        refine g_if_eq (n := 73) (tgt := 105) X dX12_person_70 (by decide) (by omega) rfl (fun c10 => ?_) (fun c10 => ?_)
        · refine g_bipush (n := 107) X dX12_person_105 (by decide +kernel) rfl ?_
          exact g_ireturn X hr dX12_person_107 (by exact ⟨by omega, fun a h0 h1 => rfl⟩)
        · refine g_iload_n (n := 74) X 3 dX12_person_73 rfl rfl rfl ?_
          refine g_sipush (n := 77) X dX12_person_74 (by decide +kernel) rfl ?_
          refine g_aload_n (n := 78) X 1 dX12_person_77 rfl rfl rfl ?_
          refine gg_12_1 (n := 81) (z := 191) X (by omega) (by omega) lay_190 kw_6_27 dX12_person_78 rfl f_190_1 (by omega) ?_
          refine g_iconst (n := 82) X dX12_person_81 rfl ?_
          refine g_iald (n := 83) X (by omega) (by omega) lay_191 (by omega) (by omega) (by omega) dX12_person_82 rfl ?_
          rw [show M 191 0 = 0 from f_191_0]
          refine g_callSi (n := 86) (As := [gJ b, gJ (-3000), gJ 0]) (rest := []) (cs1 := 0) (ss1 := 0) X (c_X12_in b (-3000) 0 (by omega) (by omega) (by omega) (by omega)) okX12_in kw_6_106 kw_6_107 ⟨rfl, rfl⟩ ⟨Nat.le_of_ble_eq_true rfl, Nat.le_of_ble_eq_true rfl⟩ rfl rfl (Nat.le_of_ble_eq_true rfl) ⟨Nat.le_of_ble_eq_true rfl, Nat.le_of_ble_eq_true rfl⟩ rfl rfl dX12_person_83 rfl (fun z11 M12 P13 => ?_)
          obtain ⟨rfl, P13⟩ := P13
          refine g_if_eq (n := 89) (tgt := 105) X dX12_person_86 (by decide) (by omega) rfl (fun c14 => ?_) (fun c14 => ?_)
          · refine g_bipush (n := 107) X dX12_person_105 (by decide +kernel) rfl ?_
            exact g_ireturn X hr dX12_person_107 (by exact ⟨by omega, fun a h0 h1 => rfl⟩)
          · refine g_iload (n := 91) X 0 dX12_person_89 rfl rfl ?_
            refine g_if_eq (n := 94) (tgt := 105) X dX12_person_91 (by decide) (by omega) rfl (fun c15 => by exfalso; omega) (fun c15 => ?_)
            refine g_iload (n := 96) X 6 dX12_person_94 rfl rfl ?_
            refine g_iconst (n := 97) X dX12_person_96 rfl ?_
            refine g_bipush (n := 99) X dX12_person_97 (by decide +kernel) rfl ?_
            refine g_callSi (n := 102) (As := [gJ f, gJ 0, gJ 9]) (rest := []) (cs1 := 0) (ss1 := 0) X (c_X12_in f 0 9 (by omega) (by omega) (by omega) (by omega)) okX12_in kw_6_106 kw_6_107 ⟨rfl, rfl⟩ ⟨Nat.le_of_ble_eq_true rfl, Nat.le_of_ble_eq_true rfl⟩ rfl rfl (Nat.le_of_ble_eq_true rfl) ⟨Nat.le_of_ble_eq_true rfl, Nat.le_of_ble_eq_true rfl⟩ rfl rfl dX12_person_99 rfl (fun z16 M17 P18 => ?_)
            obtain ⟨rfl, P18⟩ := P18
            refine g_if_ne (n := 105) (tgt := 108) X dX12_person_102 (by decide) (by omega) rfl (fun c19 => ?_) (fun c19 => ?_)
            · refine g_aload_n (n := 109) X 1 dX12_person_108 rfl rfl rfl ?_
              refine gg_12_1 (n := 112) (z := 191) X (by omega) (by omega) lay_190 kw_6_27 dX12_person_109 rfl f_190_1 (by omega) ?_
              refine g_iconst (n := 113) X dX12_person_112 rfl ?_
              refine g_iald (n := 114) X (by omega) (by omega) lay_191 (by omega) (by omega) (by omega) dX12_person_113 rfl ?_
              rw [show M 191 1 = 0 from f_191_1]
              refine g_bipush (n := 116) X dX12_person_114 (by decide +kernel) rfl ?_
              refine g_icmp_ne (n := 119) (tgt := 122) X dX12_person_116 (by decide) (by omega) (by omega) rfl (fun c20 => ?_) (fun c20 => by exfalso; omega)
              refine g_aload_n (n := 123) X 1 dX12_person_122 rfl rfl rfl ?_
              refine gg_12_1 (n := 126) (z := 191) X (by omega) (by omega) lay_190 kw_6_27 dX12_person_123 rfl f_190_1 (by omega) ?_
              refine g_iconst (n := 127) X dX12_person_126 rfl ?_
              refine g_iald (n := 128) X (by omega) (by omega) lay_191 (by omega) (by omega) (by omega) dX12_person_127 rfl ?_
              rw [show M 191 1 = 0 from f_191_1]
              refine g_istore (n := 130) (L' := [(7, gJ 0), (6, gJ 1), (0, gA n0 190), (1, gJ a), (2, gJ b), (3, gJ c), (4, gJ d), (5, gJ f)]) X dX12_person_128 (by decide) rfl rfl ?_
              refine g_aload_n (n := 131) X 2 dX12_person_130 rfl rfl rfl ?_
              refine gg_12_1 (n := 134) (z := 191) X (by omega) (by omega) lay_190 kw_6_27 dX12_person_131 rfl f_190_1 (by omega) ?_
              refine g_bipush (n := 136) X dX12_person_134 (by decide +kernel) rfl ?_
              refine g_iload (n := 138) X 0 dX12_person_136 rfl rfl ?_
              refine g_iadd (n := 139) (z := 80) X dX12_person_138 rfl rfl ?_
              refine g_iload_n (n := 140) X 3 dX12_person_139 rfl rfl rfl ?_
              refine g_iast (n := 141) X (by omega) (by omega) lay_191 (by omega) (by omega) (by omega) dX12_person_140 rfl ?_
              refine G.nm (fun M21 e22 => ?_)
              refine g_aload_n (n := 142) X 2 dX12_person_141 rfl rfl rfl ?_
              refine gg_12_1 (n := 145) (z := 191) X (by omega) (by omega) lay_190 kw_6_27 dX12_person_142 rfl ((congrFun (congrFun e22 _) _).trans ((gset_ne (by omega)).trans f_190_1)) (by omega) ?_
              refine g_bipush (n := 147) X dX12_person_145 (by decide +kernel) rfl ?_
              refine g_iload (n := 149) X 0 dX12_person_147 rfl rfl ?_
              refine g_iadd (n := 150) (z := 96) X dX12_person_149 rfl rfl ?_
              refine g_iload_n (n := 151) X 4 dX12_person_150 rfl rfl rfl ?_
              refine g_iast (n := 152) X (by omega) (by omega) lay_191 (by omega) (by omega) (by omega) dX12_person_151 rfl ?_
              refine G.nm (fun M23 e24 => ?_)
              refine g_aload_n (n := 153) X 2 dX12_person_152 rfl rfl rfl ?_
              refine gg_12_1 (n := 156) (z := 191) X (by omega) (by omega) lay_190 kw_6_27 dX12_person_153 rfl ((congrFun (congrFun e24 _) _).trans ((gset_ne (by omega)).trans ((congrFun (congrFun e22 _) _).trans ((gset_ne (by omega)).trans f_190_1)))) (by omega) ?_
              refine g_bipush (n := 158) X dX12_person_156 (by decide +kernel) rfl ?_
              refine g_iload (n := 160) X 0 dX12_person_158 rfl rfl ?_
              refine g_iadd (n := 161) (z := 112) X dX12_person_160 rfl rfl ?_
              refine g_iload_n (n := 162) X 5 dX12_person_161 rfl rfl rfl ?_
              refine g_iast (n := 163) X (by omega) (by omega) lay_191 (by omega) (by omega) (by omega) dX12_person_162 rfl ?_
              refine G.nm (fun M25 e26 => ?_)
              refine g_aload_n (n := 164) X 2 dX12_person_163 rfl rfl rfl ?_
              refine gg_12_1 (n := 167) (z := 191) X (by omega) (by omega) lay_190 kw_6_27 dX12_person_164 rfl ((congrFun (congrFun e26 _) _).trans ((gset_ne (by omega)).trans ((congrFun (congrFun e24 _) _).trans ((gset_ne (by omega)).trans ((congrFun (congrFun e22 _) _).trans ((gset_ne (by omega)).trans f_190_1)))))) (by omega) ?_
              refine g_sipush (n := 170) X dX12_person_167 (by decide +kernel) rfl ?_
              refine g_iload (n := 172) X 0 dX12_person_170 rfl rfl ?_
              refine g_iadd (n := 173) (z := 128) X dX12_person_172 rfl rfl ?_
              refine g_iload (n := 175) X 6 dX12_person_173 rfl rfl ?_
              refine g_iast (n := 176) X (by omega) (by omega) lay_191 (by omega) (by omega) (by omega) dX12_person_175 rfl ?_
              refine G.nm (fun M27 e28 => ?_)
              refine g_aload_n (n := 177) X 2 dX12_person_176 rfl rfl rfl ?_
              refine gg_12_1 (n := 180) (z := 191) X (by omega) (by omega) lay_190 kw_6_27 dX12_person_177 rfl ((congrFun (congrFun e28 _) _).trans ((gset_ne (by omega)).trans ((congrFun (congrFun e26 _) _).trans ((gset_ne (by omega)).trans ((congrFun (congrFun e24 _) _).trans ((gset_ne (by omega)).trans ((congrFun (congrFun e22 _) _).trans ((gset_ne (by omega)).trans f_190_1)))))))) (by omega) ?_
              refine g_sipush (n := 183) X dX12_person_180 (by decide +kernel) rfl ?_
              refine g_iload (n := 185) X 0 dX12_person_183 rfl rfl ?_
              refine g_iadd (n := 186) (z := 144) X dX12_person_185 rfl rfl ?_
              refine g_iload (n := 188) X 7 dX12_person_186 rfl rfl ?_
              refine g_iast (n := 189) X (by omega) (by omega) lay_191 (by omega) (by omega) (by omega) dX12_person_188 rfl ?_
              refine G.nm (fun M29 e30 => ?_)
              refine g_aload_n (n := 190) X 2 dX12_person_189 rfl rfl rfl ?_
              refine gg_12_1 (n := 193) (z := 191) X (by omega) (by omega) lay_190 kw_6_27 dX12_person_190 rfl ((congrFun (congrFun e30 _) _).trans ((gset_ne (by omega)).trans ((congrFun (congrFun e28 _) _).trans ((gset_ne (by omega)).trans ((congrFun (congrFun e26 _) _).trans ((gset_ne (by omega)).trans ((congrFun (congrFun e24 _) _).trans ((gset_ne (by omega)).trans ((congrFun (congrFun e22 _) _).trans ((gset_ne (by omega)).trans f_190_1)))))))))) (by omega) ?_
              refine g_sipush (n := 196) X dX12_person_193 (by decide +kernel) rfl ?_
              refine g_iload (n := 198) X 0 dX12_person_196 rfl rfl ?_
              refine g_iadd (n := 199) (z := 160) X dX12_person_198 rfl rfl ?_
              refine g_iload_n (n := 200) X 5 dX12_person_199 rfl rfl rfl ?_
              refine g_iast (n := 201) X (by omega) (by omega) lay_191 (by omega) (by omega) (by omega) dX12_person_200 rfl ?_
              refine G.nm (fun M31 e32 => ?_)
              refine g_aload_n (n := 202) X 2 dX12_person_201 rfl rfl rfl ?_
              refine gg_12_1 (n := 205) (z := 191) X (by omega) (by omega) lay_190 kw_6_27 dX12_person_202 rfl ((congrFun (congrFun e32 _) _).trans ((gset_ne (by omega)).trans ((congrFun (congrFun e30 _) _).trans ((gset_ne (by omega)).trans ((congrFun (congrFun e28 _) _).trans ((gset_ne (by omega)).trans ((congrFun (congrFun e26 _) _).trans ((gset_ne (by omega)).trans ((congrFun (congrFun e24 _) _).trans ((gset_ne (by omega)).trans ((congrFun (congrFun e22 _) _).trans ((gset_ne (by omega)).trans f_190_1)))))))))))) (by omega) ?_
              refine g_sipush (n := 208) X dX12_person_205 (by decide +kernel) rfl ?_
              refine g_iload (n := 210) X 0 dX12_person_208 rfl rfl ?_
              refine g_iadd (n := 211) (z := 176) X dX12_person_210 rfl rfl ?_
              refine g_iconst (n := 212) X dX12_person_211 rfl ?_
              refine g_iast (n := 213) X (by omega) (by omega) lay_191 (by omega) (by omega) (by omega) dX12_person_212 rfl ?_
              refine G.nm (fun M33 e34 => ?_)
              refine g_aload_n (n := 214) X 2 dX12_person_213 rfl rfl rfl ?_
              refine gg_12_1 (n := 217) (z := 191) X (by omega) (by omega) lay_190 kw_6_27 dX12_person_214 rfl ((congrFun (congrFun e34 _) _).trans ((gset_ne (by omega)).trans ((congrFun (congrFun e32 _) _).trans ((gset_ne (by omega)).trans ((congrFun (congrFun e30 _) _).trans ((gset_ne (by omega)).trans ((congrFun (congrFun e28 _) _).trans ((gset_ne (by omega)).trans ((congrFun (congrFun e26 _) _).trans ((gset_ne (by omega)).trans ((congrFun (congrFun e24 _) _).trans ((gset_ne (by omega)).trans ((congrFun (congrFun e22 _) _).trans ((gset_ne (by omega)).trans f_190_1)))))))))))))) (by omega) ?_
              refine g_sipush (n := 220) X dX12_person_217 (by decide +kernel) rfl ?_
              refine g_iload (n := 222) X 0 dX12_person_220 rfl rfl ?_
              refine g_iadd (n := 223) (z := 192) X dX12_person_222 rfl rfl ?_
              refine g_iconst (n := 224) X dX12_person_223 rfl ?_
              refine g_iast (n := 225) X (by omega) (by omega) lay_191 (by omega) (by omega) (by omega) dX12_person_224 rfl ?_
              refine G.nm (fun M35 e36 => ?_)
              refine g_aload_n (n := 226) X 2 dX12_person_225 rfl rfl rfl ?_
              refine gg_12_1 (n := 229) (z := 191) X (by omega) (by omega) lay_190 kw_6_27 dX12_person_226 rfl ((congrFun (congrFun e36 _) _).trans ((gset_ne (by omega)).trans ((congrFun (congrFun e34 _) _).trans ((gset_ne (by omega)).trans ((congrFun (congrFun e32 _) _).trans ((gset_ne (by omega)).trans ((congrFun (congrFun e30 _) _).trans ((gset_ne (by omega)).trans ((congrFun (congrFun e28 _) _).trans ((gset_ne (by omega)).trans ((congrFun (congrFun e26 _) _).trans ((gset_ne (by omega)).trans ((congrFun (congrFun e24 _) _).trans ((gset_ne (by omega)).trans ((congrFun (congrFun e22 _) _).trans ((gset_ne (by omega)).trans f_190_1)))))))))))))))) (by omega) ?_
              refine g_sipush (n := 232) X dX12_person_229 (by decide +kernel) rfl ?_
              refine g_iload (n := 234) X 0 dX12_person_232 rfl rfl ?_
              refine g_iadd (n := 235) (z := 208) X dX12_person_234 rfl rfl ?_
              refine g_iconst (n := 236) X dX12_person_235 rfl ?_
              refine g_iast (n := 237) X (by omega) (by omega) lay_191 (by omega) (by omega) (by omega) dX12_person_236 rfl ?_
              refine G.nm (fun M37 e38 => ?_)
              refine g_aload_n (n := 238) X 2 dX12_person_237 rfl rfl rfl ?_
              refine gg_12_1 (n := 241) (z := 191) X (by omega) (by omega) lay_190 kw_6_27 dX12_person_238 rfl ((congrFun (congrFun e38 _) _).trans ((gset_ne (by omega)).trans ((congrFun (congrFun e36 _) _).trans ((gset_ne (by omega)).trans ((congrFun (congrFun e34 _) _).trans ((gset_ne (by omega)).trans ((congrFun (congrFun e32 _) _).trans ((gset_ne (by omega)).trans ((congrFun (congrFun e30 _) _).trans ((gset_ne (by omega)).trans ((congrFun (congrFun e28 _) _).trans ((gset_ne (by omega)).trans ((congrFun (congrFun e26 _) _).trans ((gset_ne (by omega)).trans ((congrFun (congrFun e24 _) _).trans ((gset_ne (by omega)).trans ((congrFun (congrFun e22 _) _).trans ((gset_ne (by omega)).trans f_190_1)))))))))))))))))) (by omega) ?_
              refine g_sipush (n := 244) X dX12_person_241 (by decide +kernel) rfl ?_
              refine g_iload (n := 246) X 0 dX12_person_244 rfl rfl ?_
              refine g_iadd (n := 247) (z := 224) X dX12_person_246 rfl rfl ?_
              refine g_iconst (n := 248) X dX12_person_247 rfl ?_
              refine g_iast (n := 249) X (by omega) (by omega) lay_191 (by omega) (by omega) (by omega) dX12_person_248 rfl ?_
              refine G.nm (fun M39 e40 => ?_)
              refine g_aload_n (n := 250) X 2 dX12_person_249 rfl rfl rfl ?_
              refine gg_12_1 (n := 253) (z := 191) X (by omega) (by omega) lay_190 kw_6_27 dX12_person_250 rfl ((congrFun (congrFun e40 _) _).trans ((gset_ne (by omega)).trans ((congrFun (congrFun e38 _) _).trans ((gset_ne (by omega)).trans ((congrFun (congrFun e36 _) _).trans ((gset_ne (by omega)).trans ((congrFun (congrFun e34 _) _).trans ((gset_ne (by omega)).trans ((congrFun (congrFun e32 _) _).trans ((gset_ne (by omega)).trans ((congrFun (congrFun e30 _) _).trans ((gset_ne (by omega)).trans ((congrFun (congrFun e28 _) _).trans ((gset_ne (by omega)).trans ((congrFun (congrFun e26 _) _).trans ((gset_ne (by omega)).trans ((congrFun (congrFun e24 _) _).trans ((gset_ne (by omega)).trans ((congrFun (congrFun e22 _) _).trans ((gset_ne (by omega)).trans f_190_1)))))))))))))))))))) (by omega) ?_
              refine g_sipush (n := 256) X dX12_person_253 (by decide +kernel) rfl ?_
              refine g_iload (n := 258) X 0 dX12_person_256 rfl rfl ?_
              refine g_iadd (n := 259) (z := 240) X dX12_person_258 rfl rfl ?_
              refine g_iconst (n := 260) X dX12_person_259 rfl ?_
              refine g_iast (n := 261) X (by omega) (by omega) lay_191 (by omega) (by omega) (by omega) dX12_person_260 rfl ?_
              refine G.nm (fun M41 e42 => ?_)
              refine g_aload_n (n := 262) X 2 dX12_person_261 rfl rfl rfl ?_
              refine gg_12_1 (n := 265) (z := 191) X (by omega) (by omega) lay_190 kw_6_27 dX12_person_262 rfl ((congrFun (congrFun e42 _) _).trans ((gset_ne (by omega)).trans ((congrFun (congrFun e40 _) _).trans ((gset_ne (by omega)).trans ((congrFun (congrFun e38 _) _).trans ((gset_ne (by omega)).trans ((congrFun (congrFun e36 _) _).trans ((gset_ne (by omega)).trans ((congrFun (congrFun e34 _) _).trans ((gset_ne (by omega)).trans ((congrFun (congrFun e32 _) _).trans ((gset_ne (by omega)).trans ((congrFun (congrFun e30 _) _).trans ((gset_ne (by omega)).trans ((congrFun (congrFun e28 _) _).trans ((gset_ne (by omega)).trans ((congrFun (congrFun e26 _) _).trans ((gset_ne (by omega)).trans ((congrFun (congrFun e24 _) _).trans ((gset_ne (by omega)).trans ((congrFun (congrFun e22 _) _).trans ((gset_ne (by omega)).trans f_190_1)))))))))))))))))))))) (by omega) ?_
              refine g_iconst (n := 266) X dX12_person_265 rfl ?_
              refine g_dup2 (n := 267) X dX12_person_266 rfl rfl rfl ?_
              refine g_iald (n := 268) X (by omega) (by omega) lay_191 (by omega) (by omega) (by omega) dX12_person_267 rfl ?_
              rw [show M41 191 1 = 0 from ((congrFun (congrFun e42 _) _).trans ((gset_ne (by omega)).trans ((congrFun (congrFun e40 _) _).trans ((gset_ne (by omega)).trans ((congrFun (congrFun e38 _) _).trans ((gset_ne (by omega)).trans ((congrFun (congrFun e36 _) _).trans ((gset_ne (by omega)).trans ((congrFun (congrFun e34 _) _).trans ((gset_ne (by omega)).trans ((congrFun (congrFun e32 _) _).trans ((gset_ne (by omega)).trans ((congrFun (congrFun e30 _) _).trans ((gset_ne (by omega)).trans ((congrFun (congrFun e28 _) _).trans ((gset_ne (by omega)).trans ((congrFun (congrFun e26 _) _).trans ((gset_ne (by omega)).trans ((congrFun (congrFun e24 _) _).trans ((gset_ne (by omega)).trans ((congrFun (congrFun e22 _) _).trans ((gset_ne (by omega)).trans f_191_1))))))))))))))))))))))]
              refine g_iconst (n := 269) X dX12_person_268 rfl ?_
              refine g_iadd (n := 270) (z := 1) X dX12_person_269 rfl rfl ?_
              refine g_iast (n := 271) X (by omega) (by omega) lay_191 (by omega) (by omega) (by omega) dX12_person_270 rfl ?_
              refine G.nm (fun M43 e44 => ?_)
              refine g_aload_n (n := 272) X 2 dX12_person_271 rfl rfl rfl ?_
              refine g_dup (n := 273) X dX12_person_272 rfl rfl ?_
              refine gg_12_19 (n := 276) (z := 1) X (by omega) (by omega) lay_190 kw_6_45 dX12_person_273 rfl ((congrFun (congrFun e44 _) _).trans ((gset_ne (by omega)).trans ((congrFun (congrFun e42 _) _).trans ((gset_ne (by omega)).trans ((congrFun (congrFun e40 _) _).trans ((gset_ne (by omega)).trans ((congrFun (congrFun e38 _) _).trans ((gset_ne (by omega)).trans ((congrFun (congrFun e36 _) _).trans ((gset_ne (by omega)).trans ((congrFun (congrFun e34 _) _).trans ((gset_ne (by omega)).trans ((congrFun (congrFun e32 _) _).trans ((gset_ne (by omega)).trans ((congrFun (congrFun e30 _) _).trans ((gset_ne (by omega)).trans ((congrFun (congrFun e28 _) _).trans ((gset_ne (by omega)).trans ((congrFun (congrFun e26 _) _).trans ((gset_ne (by omega)).trans ((congrFun (congrFun e24 _) _).trans ((gset_ne (by omega)).trans ((congrFun (congrFun e22 _) _).trans ((gset_ne (by omega)).trans f_190_19)))))))))))))))))))))))) ?_
              refine g_iconst (n := 277) X dX12_person_276 rfl ?_
              refine g_iadd (n := 278) (z := 2) X dX12_person_277 rfl rfl ?_
              refine gp_12_19 (n := 281) X (by omega) (by omega) lay_190 kw_6_45 dX12_person_278 rfl ?_
              refine G.nm (fun M45 e46 => ?_)
              refine g_iload (n := 283) X 0 dX12_person_281 rfl rfl ?_
              exact g_ireturn X hr dX12_person_283 (by exact ⟨by omega, fun a h0 h1 => ((congrFun e46 a).trans ((gset_off a (by omega)).trans ((congrFun e44 a).trans ((gset_off a (by omega)).trans ((congrFun e42 a).trans ((gset_off a (by omega)).trans ((congrFun e40 a).trans ((gset_off a (by omega)).trans ((congrFun e38 a).trans ((gset_off a (by omega)).trans ((congrFun e36 a).trans ((gset_off a (by omega)).trans ((congrFun e34 a).trans ((gset_off a (by omega)).trans ((congrFun e32 a).trans ((gset_off a (by omega)).trans ((congrFun e30 a).trans ((gset_off a (by omega)).trans ((congrFun e28 a).trans ((gset_off a (by omega)).trans ((congrFun e26 a).trans ((gset_off a (by omega)).trans ((congrFun e24 a).trans ((gset_off a (by omega)).trans ((congrFun e22 a).trans ((gset_off a (by omega)).trans rfl))))))))))))))))))))))))))⟩)
            · refine g_bipush (n := 107) X dX12_person_105 (by decide +kernel) rfl ?_
              exact g_ireturn X hr dX12_person_107 (by exact ⟨by omega, fun a h0 h1 => rfl⟩)
      · refine g_aload_n (n := 31) X 0 dX12_person_30 rfl rfl rfl ?_
        refine gg_12_1 (n := 34) (z := 191) X (by omega) (by omega) lay_190 kw_6_27 dX12_person_31 rfl f_190_1 (by omega) ?_
        refine g_bipush (n := 36) X dX12_person_34 (by decide +kernel) rfl ?_
        refine g_iload (n := 38) X 4 dX12_person_36 rfl rfl ?_
        refine g_iadd (n := 39) (z := 80 + d) X dX12_person_38 rfl rfl ?_
        refine g_iald (n := 40) X (by omega) (by omega) lay_191 (by omega) (by omega) (by omega) dX12_person_39 rfl ?_
        refine g_if_ne (n := 43) (tgt := 61) X dX12_person_40 (by decide) (by omega) rfl (fun c47 => ?_) (fun c47 => ?_)
        · refine g_iconst (n := 62) X dX12_person_61 rfl ?_
          refine g_istore (n := 64) (L' := [(6, gJ 0), (0, gA n0 190), (1, gJ a), (2, gJ b), (3, gJ c), (4, gJ d), (5, gJ f)]) X dX12_person_62 (by decide) rfl rfl ?_
          refine g_iload_n (n := 65) X 2 dX12_person_64 rfl rfl rfl ?_
          refine g_iconst (n := 66) X dX12_person_65 rfl ?_
          refine g_iconst (n := 67) X dX12_person_66 rfl ?_
          refine g_callSi (n := 70) (As := [gJ a, gJ 0, gJ 1]) (rest := []) (cs1 := 0) (ss1 := 0) X (c_X12_in a 0 1 (by omega) (by omega) (by omega) (by omega)) okX12_in kw_6_106 kw_6_107 ⟨rfl, rfl⟩ ⟨Nat.le_of_ble_eq_true rfl, Nat.le_of_ble_eq_true rfl⟩ rfl rfl (Nat.le_of_ble_eq_true rfl) ⟨Nat.le_of_ble_eq_true rfl, Nat.le_of_ble_eq_true rfl⟩ rfl rfl dX12_person_67 rfl (fun z48 M49 P50 => ?_)
          obtain ⟨rfl, P50⟩ := P50
          refine g_if_eq (n := 73) (tgt := 105) X dX12_person_70 (by decide) (by omega) rfl (fun c51 => ?_) (fun c51 => ?_)
          · refine g_bipush (n := 107) X dX12_person_105 (by decide +kernel) rfl ?_
            exact g_ireturn X hr dX12_person_107 (by exact ⟨by omega, fun a h0 h1 => rfl⟩)
          · refine g_iload_n (n := 74) X 3 dX12_person_73 rfl rfl rfl ?_
            refine g_sipush (n := 77) X dX12_person_74 (by decide +kernel) rfl ?_
            refine g_aload_n (n := 78) X 1 dX12_person_77 rfl rfl rfl ?_
            refine gg_12_1 (n := 81) (z := 191) X (by omega) (by omega) lay_190 kw_6_27 dX12_person_78 rfl f_190_1 (by omega) ?_
            refine g_iconst (n := 82) X dX12_person_81 rfl ?_
            refine g_iald (n := 83) X (by omega) (by omega) lay_191 (by omega) (by omega) (by omega) dX12_person_82 rfl ?_
            rw [show M 191 0 = 0 from f_191_0]
            refine g_callSi (n := 86) (As := [gJ b, gJ (-3000), gJ 0]) (rest := []) (cs1 := 0) (ss1 := 0) X (c_X12_in b (-3000) 0 (by omega) (by omega) (by omega) (by omega)) okX12_in kw_6_106 kw_6_107 ⟨rfl, rfl⟩ ⟨Nat.le_of_ble_eq_true rfl, Nat.le_of_ble_eq_true rfl⟩ rfl rfl (Nat.le_of_ble_eq_true rfl) ⟨Nat.le_of_ble_eq_true rfl, Nat.le_of_ble_eq_true rfl⟩ rfl rfl dX12_person_83 rfl (fun z52 M53 P54 => ?_)
            obtain ⟨rfl, P54⟩ := P54
            refine g_if_eq (n := 89) (tgt := 105) X dX12_person_86 (by decide) (by omega) rfl (fun c55 => ?_) (fun c55 => ?_)
            · refine g_bipush (n := 107) X dX12_person_105 (by decide +kernel) rfl ?_
              exact g_ireturn X hr dX12_person_107 (by exact ⟨by omega, fun a h0 h1 => rfl⟩)
            · refine g_iload (n := 91) X 0 dX12_person_89 rfl rfl ?_
              refine g_if_eq (n := 94) (tgt := 105) X dX12_person_91 (by decide) (by omega) rfl (fun c56 => ?_) (fun c56 => by exfalso; omega)
              refine g_bipush (n := 107) X dX12_person_105 (by decide +kernel) rfl ?_
              exact g_ireturn X hr dX12_person_107 (by exact ⟨by omega, fun a h0 h1 => rfl⟩)
        · refine g_aload_n (n := 44) X 0 dX12_person_43 rfl rfl rfl ?_
          refine gg_12_1 (n := 47) (z := 191) X (by omega) (by omega) lay_190 kw_6_27 dX12_person_44 rfl f_190_1 (by omega) ?_
          refine g_bipush (n := 49) X dX12_person_47 (by decide +kernel) rfl ?_
          refine g_iload (n := 51) X 4 dX12_person_49 rfl rfl ?_
          refine g_iadd (n := 52) (z := 96 + d) X dX12_person_51 rfl rfl ?_
          refine g_iald (n := 53) X (by omega) (by omega) lay_191 (by omega) (by omega) (by omega) dX12_person_52 rfl ?_
          refine g_iload_n (n := 54) X 2 dX12_person_53 rfl rfl rfl ?_
          refine g_icmp_ge (n := 57) (tgt := 61) X dX12_person_54 (by decide) (by omega) (by omega) rfl (fun c57 => ?_) (fun c57 => ?_)
          · refine g_iconst (n := 62) X dX12_person_61 rfl ?_
            refine g_istore (n := 64) (L' := [(6, gJ 0), (0, gA n0 190), (1, gJ a), (2, gJ b), (3, gJ c), (4, gJ d), (5, gJ f)]) X dX12_person_62 (by decide) rfl rfl ?_
            refine g_iload_n (n := 65) X 2 dX12_person_64 rfl rfl rfl ?_
            refine g_iconst (n := 66) X dX12_person_65 rfl ?_
            refine g_iconst (n := 67) X dX12_person_66 rfl ?_
            refine g_callSi (n := 70) (As := [gJ a, gJ 0, gJ 1]) (rest := []) (cs1 := 0) (ss1 := 0) X (c_X12_in a 0 1 (by omega) (by omega) (by omega) (by omega)) okX12_in kw_6_106 kw_6_107 ⟨rfl, rfl⟩ ⟨Nat.le_of_ble_eq_true rfl, Nat.le_of_ble_eq_true rfl⟩ rfl rfl (Nat.le_of_ble_eq_true rfl) ⟨Nat.le_of_ble_eq_true rfl, Nat.le_of_ble_eq_true rfl⟩ rfl rfl dX12_person_67 rfl (fun z58 M59 P60 => ?_)
            obtain ⟨rfl, P60⟩ := P60
            refine g_if_eq (n := 73) (tgt := 105) X dX12_person_70 (by decide) (by omega) rfl (fun c61 => ?_) (fun c61 => ?_)
            · refine g_bipush (n := 107) X dX12_person_105 (by decide +kernel) rfl ?_
              exact g_ireturn X hr dX12_person_107 (by exact ⟨by omega, fun a h0 h1 => rfl⟩)
            · refine g_iload_n (n := 74) X 3 dX12_person_73 rfl rfl rfl ?_
              refine g_sipush (n := 77) X dX12_person_74 (by decide +kernel) rfl ?_
              refine g_aload_n (n := 78) X 1 dX12_person_77 rfl rfl rfl ?_
              refine gg_12_1 (n := 81) (z := 191) X (by omega) (by omega) lay_190 kw_6_27 dX12_person_78 rfl f_190_1 (by omega) ?_
              refine g_iconst (n := 82) X dX12_person_81 rfl ?_
              refine g_iald (n := 83) X (by omega) (by omega) lay_191 (by omega) (by omega) (by omega) dX12_person_82 rfl ?_
              rw [show M 191 0 = 0 from f_191_0]
              refine g_callSi (n := 86) (As := [gJ b, gJ (-3000), gJ 0]) (rest := []) (cs1 := 0) (ss1 := 0) X (c_X12_in b (-3000) 0 (by omega) (by omega) (by omega) (by omega)) okX12_in kw_6_106 kw_6_107 ⟨rfl, rfl⟩ ⟨Nat.le_of_ble_eq_true rfl, Nat.le_of_ble_eq_true rfl⟩ rfl rfl (Nat.le_of_ble_eq_true rfl) ⟨Nat.le_of_ble_eq_true rfl, Nat.le_of_ble_eq_true rfl⟩ rfl rfl dX12_person_83 rfl (fun z62 M63 P64 => ?_)
              obtain ⟨rfl, P64⟩ := P64
              refine g_if_eq (n := 89) (tgt := 105) X dX12_person_86 (by decide) (by omega) rfl (fun c65 => ?_) (fun c65 => ?_)
              · refine g_bipush (n := 107) X dX12_person_105 (by decide +kernel) rfl ?_
                exact g_ireturn X hr dX12_person_107 (by exact ⟨by omega, fun a h0 h1 => rfl⟩)
              · refine g_iload (n := 91) X 0 dX12_person_89 rfl rfl ?_
                refine g_if_eq (n := 94) (tgt := 105) X dX12_person_91 (by decide) (by omega) rfl (fun c66 => ?_) (fun c66 => by exfalso; omega)
                refine g_bipush (n := 107) X dX12_person_105 (by decide +kernel) rfl ?_
                exact g_ireturn X hr dX12_person_107 (by exact ⟨by omega, fun a h0 h1 => rfl⟩)
          · refine g_iconst (n := 58) X dX12_person_57 rfl ?_
            refine g_goto (tgt := 62) X dX12_person_58 (by decide) ?_
            refine g_istore (n := 64) (L' := [(6, gJ 1), (0, gA n0 190), (1, gJ a), (2, gJ b), (3, gJ c), (4, gJ d), (5, gJ f)]) X dX12_person_62 (by decide) rfl rfl ?_
            refine g_iload_n (n := 65) X 2 dX12_person_64 rfl rfl rfl ?_
            refine g_iconst (n := 66) X dX12_person_65 rfl ?_
            refine g_iconst (n := 67) X dX12_person_66 rfl ?_
            refine g_callSi (n := 70) (As := [gJ a, gJ 0, gJ 1]) (rest := []) (cs1 := 0) (ss1 := 0) X (c_X12_in a 0 1 (by omega) (by omega) (by omega) (by omega)) okX12_in kw_6_106 kw_6_107 ⟨rfl, rfl⟩ ⟨Nat.le_of_ble_eq_true rfl, Nat.le_of_ble_eq_true rfl⟩ rfl rfl (Nat.le_of_ble_eq_true rfl) ⟨Nat.le_of_ble_eq_true rfl, Nat.le_of_ble_eq_true rfl⟩ rfl rfl dX12_person_67 rfl (fun z67 M68 P69 => ?_)
            obtain ⟨rfl, P69⟩ := P69
            refine g_if_eq (n := 73) (tgt := 105) X dX12_person_70 (by decide) (by omega) rfl (fun c70 => ?_) (fun c70 => ?_)
            · refine g_bipush (n := 107) X dX12_person_105 (by decide +kernel) rfl ?_
              exact g_ireturn X hr dX12_person_107 (by exact ⟨by omega, fun a h0 h1 => rfl⟩)
            · refine g_iload_n (n := 74) X 3 dX12_person_73 rfl rfl rfl ?_
              refine g_sipush (n := 77) X dX12_person_74 (by decide +kernel) rfl ?_
              refine g_aload_n (n := 78) X 1 dX12_person_77 rfl rfl rfl ?_
              refine gg_12_1 (n := 81) (z := 191) X (by omega) (by omega) lay_190 kw_6_27 dX12_person_78 rfl f_190_1 (by omega) ?_
              refine g_iconst (n := 82) X dX12_person_81 rfl ?_
              refine g_iald (n := 83) X (by omega) (by omega) lay_191 (by omega) (by omega) (by omega) dX12_person_82 rfl ?_
              rw [show M 191 0 = 0 from f_191_0]
              refine g_callSi (n := 86) (As := [gJ b, gJ (-3000), gJ 0]) (rest := []) (cs1 := 0) (ss1 := 0) X (c_X12_in b (-3000) 0 (by omega) (by omega) (by omega) (by omega)) okX12_in kw_6_106 kw_6_107 ⟨rfl, rfl⟩ ⟨Nat.le_of_ble_eq_true rfl, Nat.le_of_ble_eq_true rfl⟩ rfl rfl (Nat.le_of_ble_eq_true rfl) ⟨Nat.le_of_ble_eq_true rfl, Nat.le_of_ble_eq_true rfl⟩ rfl rfl dX12_person_83 rfl (fun z71 M72 P73 => ?_)
              obtain ⟨rfl, P73⟩ := P73
              refine g_if_eq (n := 89) (tgt := 105) X dX12_person_86 (by decide) (by omega) rfl (fun c74 => ?_) (fun c74 => ?_)
              · refine g_bipush (n := 107) X dX12_person_105 (by decide +kernel) rfl ?_
                exact g_ireturn X hr dX12_person_107 (by exact ⟨by omega, fun a h0 h1 => rfl⟩)
              · refine g_iload (n := 91) X 0 dX12_person_89 rfl rfl ?_
                refine g_if_eq (n := 94) (tgt := 105) X dX12_person_91 (by decide) (by omega) rfl (fun c75 => by exfalso; omega) (fun c75 => ?_)
                refine g_iload (n := 96) X 6 dX12_person_94 rfl rfl ?_
                refine g_iconst (n := 97) X dX12_person_96 rfl ?_
                refine g_bipush (n := 99) X dX12_person_97 (by decide +kernel) rfl ?_
                refine g_callSi (n := 102) (As := [gJ f, gJ 0, gJ 9]) (rest := []) (cs1 := 0) (ss1 := 0) X (c_X12_in f 0 9 (by omega) (by omega) (by omega) (by omega)) okX12_in kw_6_106 kw_6_107 ⟨rfl, rfl⟩ ⟨Nat.le_of_ble_eq_true rfl, Nat.le_of_ble_eq_true rfl⟩ rfl rfl (Nat.le_of_ble_eq_true rfl) ⟨Nat.le_of_ble_eq_true rfl, Nat.le_of_ble_eq_true rfl⟩ rfl rfl dX12_person_99 rfl (fun z76 M77 P78 => ?_)
                obtain ⟨rfl, P78⟩ := P78
                refine g_if_ne (n := 105) (tgt := 108) X dX12_person_102 (by decide) (by omega) rfl (fun c79 => ?_) (fun c79 => ?_)
                · refine g_aload_n (n := 109) X 1 dX12_person_108 rfl rfl rfl ?_
                  refine gg_12_1 (n := 112) (z := 191) X (by omega) (by omega) lay_190 kw_6_27 dX12_person_109 rfl f_190_1 (by omega) ?_
                  refine g_iconst (n := 113) X dX12_person_112 rfl ?_
                  refine g_iald (n := 114) X (by omega) (by omega) lay_191 (by omega) (by omega) (by omega) dX12_person_113 rfl ?_
                  rw [show M 191 1 = 0 from f_191_1]
                  refine g_bipush (n := 116) X dX12_person_114 (by decide +kernel) rfl ?_
                  refine g_icmp_ne (n := 119) (tgt := 122) X dX12_person_116 (by decide) (by omega) (by omega) rfl (fun c80 => ?_) (fun c80 => by exfalso; omega)
                  refine g_aload_n (n := 123) X 1 dX12_person_122 rfl rfl rfl ?_
                  refine gg_12_1 (n := 126) (z := 191) X (by omega) (by omega) lay_190 kw_6_27 dX12_person_123 rfl f_190_1 (by omega) ?_
                  refine g_iconst (n := 127) X dX12_person_126 rfl ?_
                  refine g_iald (n := 128) X (by omega) (by omega) lay_191 (by omega) (by omega) (by omega) dX12_person_127 rfl ?_
                  rw [show M 191 1 = 0 from f_191_1]
                  refine g_istore (n := 130) (L' := [(7, gJ 0), (6, gJ 1), (0, gA n0 190), (1, gJ a), (2, gJ b), (3, gJ c), (4, gJ d), (5, gJ f)]) X dX12_person_128 (by decide) rfl rfl ?_
                  refine g_aload_n (n := 131) X 2 dX12_person_130 rfl rfl rfl ?_
                  refine gg_12_1 (n := 134) (z := 191) X (by omega) (by omega) lay_190 kw_6_27 dX12_person_131 rfl f_190_1 (by omega) ?_
                  refine g_bipush (n := 136) X dX12_person_134 (by decide +kernel) rfl ?_
                  refine g_iload (n := 138) X 0 dX12_person_136 rfl rfl ?_
                  refine g_iadd (n := 139) (z := 80) X dX12_person_138 rfl rfl ?_
                  refine g_iload_n (n := 140) X 3 dX12_person_139 rfl rfl rfl ?_
                  refine g_iast (n := 141) X (by omega) (by omega) lay_191 (by omega) (by omega) (by omega) dX12_person_140 rfl ?_
                  refine G.nm (fun M81 e82 => ?_)
                  refine g_aload_n (n := 142) X 2 dX12_person_141 rfl rfl rfl ?_
                  refine gg_12_1 (n := 145) (z := 191) X (by omega) (by omega) lay_190 kw_6_27 dX12_person_142 rfl ((congrFun (congrFun e82 _) _).trans ((gset_ne (by omega)).trans f_190_1)) (by omega) ?_
                  refine g_bipush (n := 147) X dX12_person_145 (by decide +kernel) rfl ?_
                  refine g_iload (n := 149) X 0 dX12_person_147 rfl rfl ?_
                  refine g_iadd (n := 150) (z := 96) X dX12_person_149 rfl rfl ?_
                  refine g_iload_n (n := 151) X 4 dX12_person_150 rfl rfl rfl ?_
                  refine g_iast (n := 152) X (by omega) (by omega) lay_191 (by omega) (by omega) (by omega) dX12_person_151 rfl ?_
                  refine G.nm (fun M83 e84 => ?_)
                  refine g_aload_n (n := 153) X 2 dX12_person_152 rfl rfl rfl ?_
                  refine gg_12_1 (n := 156) (z := 191) X (by omega) (by omega) lay_190 kw_6_27 dX12_person_153 rfl ((congrFun (congrFun e84 _) _).trans ((gset_ne (by omega)).trans ((congrFun (congrFun e82 _) _).trans ((gset_ne (by omega)).trans f_190_1)))) (by omega) ?_
                  refine g_bipush (n := 158) X dX12_person_156 (by decide +kernel) rfl ?_
                  refine g_iload (n := 160) X 0 dX12_person_158 rfl rfl ?_
                  refine g_iadd (n := 161) (z := 112) X dX12_person_160 rfl rfl ?_
                  refine g_iload_n (n := 162) X 5 dX12_person_161 rfl rfl rfl ?_
                  refine g_iast (n := 163) X (by omega) (by omega) lay_191 (by omega) (by omega) (by omega) dX12_person_162 rfl ?_
                  refine G.nm (fun M85 e86 => ?_)
                  refine g_aload_n (n := 164) X 2 dX12_person_163 rfl rfl rfl ?_
                  refine gg_12_1 (n := 167) (z := 191) X (by omega) (by omega) lay_190 kw_6_27 dX12_person_164 rfl ((congrFun (congrFun e86 _) _).trans ((gset_ne (by omega)).trans ((congrFun (congrFun e84 _) _).trans ((gset_ne (by omega)).trans ((congrFun (congrFun e82 _) _).trans ((gset_ne (by omega)).trans f_190_1)))))) (by omega) ?_
                  refine g_sipush (n := 170) X dX12_person_167 (by decide +kernel) rfl ?_
                  refine g_iload (n := 172) X 0 dX12_person_170 rfl rfl ?_
                  refine g_iadd (n := 173) (z := 128) X dX12_person_172 rfl rfl ?_
                  refine g_iload (n := 175) X 6 dX12_person_173 rfl rfl ?_
                  refine g_iast (n := 176) X (by omega) (by omega) lay_191 (by omega) (by omega) (by omega) dX12_person_175 rfl ?_
                  refine G.nm (fun M87 e88 => ?_)
                  refine g_aload_n (n := 177) X 2 dX12_person_176 rfl rfl rfl ?_
                  refine gg_12_1 (n := 180) (z := 191) X (by omega) (by omega) lay_190 kw_6_27 dX12_person_177 rfl ((congrFun (congrFun e88 _) _).trans ((gset_ne (by omega)).trans ((congrFun (congrFun e86 _) _).trans ((gset_ne (by omega)).trans ((congrFun (congrFun e84 _) _).trans ((gset_ne (by omega)).trans ((congrFun (congrFun e82 _) _).trans ((gset_ne (by omega)).trans f_190_1)))))))) (by omega) ?_
                  refine g_sipush (n := 183) X dX12_person_180 (by decide +kernel) rfl ?_
                  refine g_iload (n := 185) X 0 dX12_person_183 rfl rfl ?_
                  refine g_iadd (n := 186) (z := 144) X dX12_person_185 rfl rfl ?_
                  refine g_iload (n := 188) X 7 dX12_person_186 rfl rfl ?_
                  refine g_iast (n := 189) X (by omega) (by omega) lay_191 (by omega) (by omega) (by omega) dX12_person_188 rfl ?_
                  refine G.nm (fun M89 e90 => ?_)
                  refine g_aload_n (n := 190) X 2 dX12_person_189 rfl rfl rfl ?_
                  refine gg_12_1 (n := 193) (z := 191) X (by omega) (by omega) lay_190 kw_6_27 dX12_person_190 rfl ((congrFun (congrFun e90 _) _).trans ((gset_ne (by omega)).trans ((congrFun (congrFun e88 _) _).trans ((gset_ne (by omega)).trans ((congrFun (congrFun e86 _) _).trans ((gset_ne (by omega)).trans ((congrFun (congrFun e84 _) _).trans ((gset_ne (by omega)).trans ((congrFun (congrFun e82 _) _).trans ((gset_ne (by omega)).trans f_190_1)))))))))) (by omega) ?_
                  refine g_sipush (n := 196) X dX12_person_193 (by decide +kernel) rfl ?_
                  refine g_iload (n := 198) X 0 dX12_person_196 rfl rfl ?_
                  refine g_iadd (n := 199) (z := 160) X dX12_person_198 rfl rfl ?_
                  refine g_iload_n (n := 200) X 5 dX12_person_199 rfl rfl rfl ?_
                  refine g_iast (n := 201) X (by omega) (by omega) lay_191 (by omega) (by omega) (by omega) dX12_person_200 rfl ?_
                  refine G.nm (fun M91 e92 => ?_)
                  refine g_aload_n (n := 202) X 2 dX12_person_201 rfl rfl rfl ?_
                  refine gg_12_1 (n := 205) (z := 191) X (by omega) (by omega) lay_190 kw_6_27 dX12_person_202 rfl ((congrFun (congrFun e92 _) _).trans ((gset_ne (by omega)).trans ((congrFun (congrFun e90 _) _).trans ((gset_ne (by omega)).trans ((congrFun (congrFun e88 _) _).trans ((gset_ne (by omega)).trans ((congrFun (congrFun e86 _) _).trans ((gset_ne (by omega)).trans ((congrFun (congrFun e84 _) _).trans ((gset_ne (by omega)).trans ((congrFun (congrFun e82 _) _).trans ((gset_ne (by omega)).trans f_190_1)))))))))))) (by omega) ?_
                  refine g_sipush (n := 208) X dX12_person_205 (by decide +kernel) rfl ?_
                  refine g_iload (n := 210) X 0 dX12_person_208 rfl rfl ?_
                  refine g_iadd (n := 211) (z := 176) X dX12_person_210 rfl rfl ?_
                  refine g_iconst (n := 212) X dX12_person_211 rfl ?_
                  refine g_iast (n := 213) X (by omega) (by omega) lay_191 (by omega) (by omega) (by omega) dX12_person_212 rfl ?_
                  refine G.nm (fun M93 e94 => ?_)
                  refine g_aload_n (n := 214) X 2 dX12_person_213 rfl rfl rfl ?_
                  refine gg_12_1 (n := 217) (z := 191) X (by omega) (by omega) lay_190 kw_6_27 dX12_person_214 rfl ((congrFun (congrFun e94 _) _).trans ((gset_ne (by omega)).trans ((congrFun (congrFun e92 _) _).trans ((gset_ne (by omega)).trans ((congrFun (congrFun e90 _) _).trans ((gset_ne (by omega)).trans ((congrFun (congrFun e88 _) _).trans ((gset_ne (by omega)).trans ((congrFun (congrFun e86 _) _).trans ((gset_ne (by omega)).trans ((congrFun (congrFun e84 _) _).trans ((gset_ne (by omega)).trans ((congrFun (congrFun e82 _) _).trans ((gset_ne (by omega)).trans f_190_1)))))))))))))) (by omega) ?_
                  refine g_sipush (n := 220) X dX12_person_217 (by decide +kernel) rfl ?_
                  refine g_iload (n := 222) X 0 dX12_person_220 rfl rfl ?_
                  refine g_iadd (n := 223) (z := 192) X dX12_person_222 rfl rfl ?_
                  refine g_iconst (n := 224) X dX12_person_223 rfl ?_
                  refine g_iast (n := 225) X (by omega) (by omega) lay_191 (by omega) (by omega) (by omega) dX12_person_224 rfl ?_
                  refine G.nm (fun M95 e96 => ?_)
                  refine g_aload_n (n := 226) X 2 dX12_person_225 rfl rfl rfl ?_
                  refine gg_12_1 (n := 229) (z := 191) X (by omega) (by omega) lay_190 kw_6_27 dX12_person_226 rfl ((congrFun (congrFun e96 _) _).trans ((gset_ne (by omega)).trans ((congrFun (congrFun e94 _) _).trans ((gset_ne (by omega)).trans ((congrFun (congrFun e92 _) _).trans ((gset_ne (by omega)).trans ((congrFun (congrFun e90 _) _).trans ((gset_ne (by omega)).trans ((congrFun (congrFun e88 _) _).trans ((gset_ne (by omega)).trans ((congrFun (congrFun e86 _) _).trans ((gset_ne (by omega)).trans ((congrFun (congrFun e84 _) _).trans ((gset_ne (by omega)).trans ((congrFun (congrFun e82 _) _).trans ((gset_ne (by omega)).trans f_190_1)))))))))))))))) (by omega) ?_
                  refine g_sipush (n := 232) X dX12_person_229 (by decide +kernel) rfl ?_
                  refine g_iload (n := 234) X 0 dX12_person_232 rfl rfl ?_
                  refine g_iadd (n := 235) (z := 208) X dX12_person_234 rfl rfl ?_
                  refine g_iconst (n := 236) X dX12_person_235 rfl ?_
                  refine g_iast (n := 237) X (by omega) (by omega) lay_191 (by omega) (by omega) (by omega) dX12_person_236 rfl ?_
                  refine G.nm (fun M97 e98 => ?_)
                  refine g_aload_n (n := 238) X 2 dX12_person_237 rfl rfl rfl ?_
                  refine gg_12_1 (n := 241) (z := 191) X (by omega) (by omega) lay_190 kw_6_27 dX12_person_238 rfl ((congrFun (congrFun e98 _) _).trans ((gset_ne (by omega)).trans ((congrFun (congrFun e96 _) _).trans ((gset_ne (by omega)).trans ((congrFun (congrFun e94 _) _).trans ((gset_ne (by omega)).trans ((congrFun (congrFun e92 _) _).trans ((gset_ne (by omega)).trans ((congrFun (congrFun e90 _) _).trans ((gset_ne (by omega)).trans ((congrFun (congrFun e88 _) _).trans ((gset_ne (by omega)).trans ((congrFun (congrFun e86 _) _).trans ((gset_ne (by omega)).trans ((congrFun (congrFun e84 _) _).trans ((gset_ne (by omega)).trans ((congrFun (congrFun e82 _) _).trans ((gset_ne (by omega)).trans f_190_1)))))))))))))))))) (by omega) ?_
                  refine g_sipush (n := 244) X dX12_person_241 (by decide +kernel) rfl ?_
                  refine g_iload (n := 246) X 0 dX12_person_244 rfl rfl ?_
                  refine g_iadd (n := 247) (z := 224) X dX12_person_246 rfl rfl ?_
                  refine g_iconst (n := 248) X dX12_person_247 rfl ?_
                  refine g_iast (n := 249) X (by omega) (by omega) lay_191 (by omega) (by omega) (by omega) dX12_person_248 rfl ?_
                  refine G.nm (fun M99 e100 => ?_)
                  refine g_aload_n (n := 250) X 2 dX12_person_249 rfl rfl rfl ?_
                  refine gg_12_1 (n := 253) (z := 191) X (by omega) (by omega) lay_190 kw_6_27 dX12_person_250 rfl ((congrFun (congrFun e100 _) _).trans ((gset_ne (by omega)).trans ((congrFun (congrFun e98 _) _).trans ((gset_ne (by omega)).trans ((congrFun (congrFun e96 _) _).trans ((gset_ne (by omega)).trans ((congrFun (congrFun e94 _) _).trans ((gset_ne (by omega)).trans ((congrFun (congrFun e92 _) _).trans ((gset_ne (by omega)).trans ((congrFun (congrFun e90 _) _).trans ((gset_ne (by omega)).trans ((congrFun (congrFun e88 _) _).trans ((gset_ne (by omega)).trans ((congrFun (congrFun e86 _) _).trans ((gset_ne (by omega)).trans ((congrFun (congrFun e84 _) _).trans ((gset_ne (by omega)).trans ((congrFun (congrFun e82 _) _).trans ((gset_ne (by omega)).trans f_190_1)))))))))))))))))))) (by omega) ?_
                  refine g_sipush (n := 256) X dX12_person_253 (by decide +kernel) rfl ?_
                  refine g_iload (n := 258) X 0 dX12_person_256 rfl rfl ?_
                  refine g_iadd (n := 259) (z := 240) X dX12_person_258 rfl rfl ?_
                  refine g_iconst (n := 260) X dX12_person_259 rfl ?_
                  refine g_iast (n := 261) X (by omega) (by omega) lay_191 (by omega) (by omega) (by omega) dX12_person_260 rfl ?_
                  refine G.nm (fun M101 e102 => ?_)
                  refine g_aload_n (n := 262) X 2 dX12_person_261 rfl rfl rfl ?_
                  refine gg_12_1 (n := 265) (z := 191) X (by omega) (by omega) lay_190 kw_6_27 dX12_person_262 rfl ((congrFun (congrFun e102 _) _).trans ((gset_ne (by omega)).trans ((congrFun (congrFun e100 _) _).trans ((gset_ne (by omega)).trans ((congrFun (congrFun e98 _) _).trans ((gset_ne (by omega)).trans ((congrFun (congrFun e96 _) _).trans ((gset_ne (by omega)).trans ((congrFun (congrFun e94 _) _).trans ((gset_ne (by omega)).trans ((congrFun (congrFun e92 _) _).trans ((gset_ne (by omega)).trans ((congrFun (congrFun e90 _) _).trans ((gset_ne (by omega)).trans ((congrFun (congrFun e88 _) _).trans ((gset_ne (by omega)).trans ((congrFun (congrFun e86 _) _).trans ((gset_ne (by omega)).trans ((congrFun (congrFun e84 _) _).trans ((gset_ne (by omega)).trans ((congrFun (congrFun e82 _) _).trans ((gset_ne (by omega)).trans f_190_1)))))))))))))))))))))) (by omega) ?_
                  refine g_iconst (n := 266) X dX12_person_265 rfl ?_
                  refine g_dup2 (n := 267) X dX12_person_266 rfl rfl rfl ?_
                  refine g_iald (n := 268) X (by omega) (by omega) lay_191 (by omega) (by omega) (by omega) dX12_person_267 rfl ?_
                  rw [show M101 191 1 = 0 from ((congrFun (congrFun e102 _) _).trans ((gset_ne (by omega)).trans ((congrFun (congrFun e100 _) _).trans ((gset_ne (by omega)).trans ((congrFun (congrFun e98 _) _).trans ((gset_ne (by omega)).trans ((congrFun (congrFun e96 _) _).trans ((gset_ne (by omega)).trans ((congrFun (congrFun e94 _) _).trans ((gset_ne (by omega)).trans ((congrFun (congrFun e92 _) _).trans ((gset_ne (by omega)).trans ((congrFun (congrFun e90 _) _).trans ((gset_ne (by omega)).trans ((congrFun (congrFun e88 _) _).trans ((gset_ne (by omega)).trans ((congrFun (congrFun e86 _) _).trans ((gset_ne (by omega)).trans ((congrFun (congrFun e84 _) _).trans ((gset_ne (by omega)).trans ((congrFun (congrFun e82 _) _).trans ((gset_ne (by omega)).trans f_191_1))))))))))))))))))))))]
                  refine g_iconst (n := 269) X dX12_person_268 rfl ?_
                  refine g_iadd (n := 270) (z := 1) X dX12_person_269 rfl rfl ?_
                  refine g_iast (n := 271) X (by omega) (by omega) lay_191 (by omega) (by omega) (by omega) dX12_person_270 rfl ?_
                  refine G.nm (fun M103 e104 => ?_)
                  refine g_aload_n (n := 272) X 2 dX12_person_271 rfl rfl rfl ?_
                  refine g_dup (n := 273) X dX12_person_272 rfl rfl ?_
                  refine gg_12_19 (n := 276) (z := 1) X (by omega) (by omega) lay_190 kw_6_45 dX12_person_273 rfl ((congrFun (congrFun e104 _) _).trans ((gset_ne (by omega)).trans ((congrFun (congrFun e102 _) _).trans ((gset_ne (by omega)).trans ((congrFun (congrFun e100 _) _).trans ((gset_ne (by omega)).trans ((congrFun (congrFun e98 _) _).trans ((gset_ne (by omega)).trans ((congrFun (congrFun e96 _) _).trans ((gset_ne (by omega)).trans ((congrFun (congrFun e94 _) _).trans ((gset_ne (by omega)).trans ((congrFun (congrFun e92 _) _).trans ((gset_ne (by omega)).trans ((congrFun (congrFun e90 _) _).trans ((gset_ne (by omega)).trans ((congrFun (congrFun e88 _) _).trans ((gset_ne (by omega)).trans ((congrFun (congrFun e86 _) _).trans ((gset_ne (by omega)).trans ((congrFun (congrFun e84 _) _).trans ((gset_ne (by omega)).trans ((congrFun (congrFun e82 _) _).trans ((gset_ne (by omega)).trans f_190_19)))))))))))))))))))))))) ?_
                  refine g_iconst (n := 277) X dX12_person_276 rfl ?_
                  refine g_iadd (n := 278) (z := 2) X dX12_person_277 rfl rfl ?_
                  refine gp_12_19 (n := 281) X (by omega) (by omega) lay_190 kw_6_45 dX12_person_278 rfl ?_
                  refine G.nm (fun M105 e106 => ?_)
                  refine g_iload (n := 283) X 0 dX12_person_281 rfl rfl ?_
                  exact g_ireturn X hr dX12_person_283 (by exact ⟨by omega, fun a h0 h1 => ((congrFun e106 a).trans ((gset_off a (by omega)).trans ((congrFun e104 a).trans ((gset_off a (by omega)).trans ((congrFun e102 a).trans ((gset_off a (by omega)).trans ((congrFun e100 a).trans ((gset_off a (by omega)).trans ((congrFun e98 a).trans ((gset_off a (by omega)).trans ((congrFun e96 a).trans ((gset_off a (by omega)).trans ((congrFun e94 a).trans ((gset_off a (by omega)).trans ((congrFun e92 a).trans ((gset_off a (by omega)).trans ((congrFun e90 a).trans ((gset_off a (by omega)).trans ((congrFun e88 a).trans ((gset_off a (by omega)).trans ((congrFun e86 a).trans ((gset_off a (by omega)).trans ((congrFun e84 a).trans ((gset_off a (by omega)).trans ((congrFun e82 a).trans ((gset_off a (by omega)).trans rfl))))))))))))))))))))))))))⟩)
                · refine g_bipush (n := 107) X dX12_person_105 (by decide +kernel) rfl ?_
                  exact g_ireturn X hr dX12_person_107 (by exact ⟨by omega, fun a h0 h1 => rfl⟩)
    · refine g_aload_n (n := 14) X 0 dX12_person_13 rfl rfl rfl ?_
      refine g_iload (n := 16) X 4 dX12_person_14 rfl rfl ?_
      refine g_callVi (n := 19) (As := [gJ d]) (rest := []) (cs1 := 0) (ss1 := 0) X (c_X12_isPerson d (by omega) (by omega) f_190_1 f_191_1) okX12_isPerson kw_6_125 ⟨kw_6_127, kw_0_40⟩ ⟨rfl, rfl⟩ ⟨Nat.le_of_ble_eq_true rfl, Nat.le_of_ble_eq_true rfl⟩ rfl (by omega) (by omega) lay_190 rfl rfl (Nat.le_of_ble_eq_true rfl) ⟨Nat.le_of_ble_eq_true rfl, Nat.le_of_ble_eq_true rfl⟩ rfl rfl dX12_person_16 rfl (fun z107 M108 P109 => ?_)
      obtain ⟨rfl, rfl⟩ := P109
      refine g_if_ne (n := 22) (tgt := 24) X dX12_person_19 (by decide) (by omega) rfl (fun c110 => by exfalso; omega) (fun c110 => ?_)
      refine g_iconst (n := 23) X dX12_person_22 rfl ?_
      exact g_ireturn X hr dX12_person_23 (by exact ⟨by omega, fun a h0 h1 => rfl⟩)
