theorem dX11_house_0 : decode cX11_house 0 = .ok (.iload_n 1, 1) := by decide +kernel
theorem dX11_house_1 : decode cX11_house 1 = .ok (.iconst 0, 1) := by decide +kernel
theorem dX11_house_2 : decode cX11_house 2 = .ok (.iconst 4, 1) := by decide +kernel
theorem dX11_house_3 : decode cX11_house 3 = .ok (.invokestatic 62, 3) := by decide +kernel
theorem dX11_house_6 : decode cX11_house 6 = .ok (.ifCond .ne 5, 3) := by decide +kernel
theorem dX11_house_11 : decode cX11_house 11 = .ok (.iload_n 2, 1) := by decide +kernel
theorem dX11_house_12 : decode cX11_house 12 = .ok (.iconst 0, 1) := by decide +kernel
theorem dX11_house_13 : decode cX11_house 13 = .ok (.iload_n 1, 1) := by decide +kernel
theorem dX11_house_14 : decode cX11_house 14 = .ok (.iconst 4, 1) := by decide +kernel
theorem dX11_house_15 : decode cX11_house 15 = .ok (.if_icmp .ne 9, 3) := by decide +kernel
theorem dX11_house_24 : decode cX11_house 24 = .ok (.bipush 20, 2) := by decide +kernel
theorem dX11_house_26 : decode cX11_house 26 = .ok (.invokestatic 62, 3) := by decide +kernel
theorem dX11_house_29 : decode cX11_house 29 = .ok (.ifCond .ne 6, 3) := by decide +kernel
theorem dX11_house_35 : decode cX11_house 35 = .ok (.aload_n 0, 1) := by decide +kernel
theorem dX11_house_36 : decode cX11_house 36 = .ok (.getfield 10, 3) := by decide +kernel
theorem dX11_house_39 : decode cX11_house 39 = .ok (.getfield 279, 3) := by decide +kernel
theorem dX11_house_42 : decode cX11_house 42 = .ok (.astore_n 3, 1) := by decide +kernel
theorem dX11_house_43 : decode cX11_house 43 = .ok (.iload_n 1, 1) := by decide +kernel
theorem dX11_house_44 : decode cX11_house 44 = .ok (.iconst 4, 1) := by decide +kernel
theorem dX11_house_45 : decode cX11_house 45 = .ok (.if_icmp .ne 10, 3) := by decide +kernel
theorem dX11_house_55 : decode cX11_house 55 = .ok (.aload_n 3, 1) := by decide +kernel
theorem dX11_house_56 : decode cX11_house 56 = .ok (.getfield 285, 3) := by decide +kernel
theorem kw_1_97 : (Jvm.Cond.fieldLink "ParishUnion" (285 : Nat) "ParishUnion$House" "beds" "[I") ∈ gT := gT_of (tb_1 _ (List.mem_of_getElem? (i := 97) rfl)) rfl
theorem dX11_house_59 : decode cX11_house 59 = .ok (.iload_n 1, 1) := by decide +kernel
theorem dX11_house_60 : decode cX11_house 60 = .ok (.iaload, 1) := by decide +kernel
theorem dX11_house_61 : decode cX11_house 61 = .ok (.istore 4, 2) := by decide +kernel
theorem dX11_house_63 : decode cX11_house 63 = .ok (.iload_n 1, 1) := by decide +kernel
theorem dX11_house_64 : decode cX11_house 64 = .ok (.iconst 4, 1) := by decide +kernel
theorem dX11_house_65 : decode cX11_house 65 = .ok (.if_icmp .ne 11, 3) := by decide +kernel
theorem dX11_house_76 : decode cX11_house 76 = .ok (.aload_n 3, 1) := by decide +kernel
theorem dX11_house_77 : decode cX11_house 77 = .ok (.getfield 285, 3) := by decide +kernel
theorem dX11_house_80 : decode cX11_house 80 = .ok (.iload_n 1, 1) := by decide +kernel
theorem dX11_house_81 : decode cX11_house 81 = .ok (.iload_n 2, 1) := by decide +kernel
theorem dX11_house_82 : decode cX11_house 82 = .ok (.iastore, 1) := by decide +kernel
theorem dX11_house_83 : decode cX11_house 83 = .ok (.iload 4, 2) := by decide +kernel
theorem dX11_house_85 : decode cX11_house 85 = .ok (.ireturn, 1) := by decide +kernel
theorem dX11_house_68 : decode cX11_house 68 = .ok (.aload_n 3, 1) := by decide +kernel
theorem dX11_house_69 : decode cX11_house 69 = .ok (.iload_n 2, 1) := by decide +kernel
theorem dX11_house_70 : decode cX11_house 70 = .ok (.putfield 282, 3) := by decide +kernel
theorem kw_1_111 : (Jvm.Cond.fieldLink "ParishUnion" (282 : Nat) "ParishUnion$House" "store" "I") ∈ gT := gT_of (tb_1 _ (List.mem_of_getElem? (i := 111) rfl)) rfl
theorem dX11_house_73 : decode cX11_house 73 = .ok (.goto 10, 3) := by decide +kernel
theorem dX11_house_48 : decode cX11_house 48 = .ok (.aload_n 3, 1) := by decide +kernel
theorem dX11_house_49 : decode cX11_house 49 = .ok (.getfield 282, 3) := by decide +kernel
theorem dX11_house_52 : decode cX11_house 52 = .ok (.goto 9, 3) := by decide +kernel
theorem dX11_house_32 : decode cX11_house 32 = .ok (.bipush (-2), 2) := by decide +kernel
theorem dX11_house_34 : decode cX11_house 34 = .ok (.ireturn, 1) := by decide +kernel
theorem dX11_house_18 : decode cX11_house 18 = .ok (.sipush 9999, 3) := by decide +kernel
theorem dX11_house_21 : decode cX11_house 21 = .ok (.goto 5, 3) := by decide +kernel
theorem dX11_house_9 : decode cX11_house 9 = .ok (.iconst (-1), 1) := by decide +kernel
theorem dX11_house_10 : decode cX11_house 10 = .ok (.ireturn, 1) := by decide +kernel
set_option maxRecDepth 100000 in
set_option maxHeartbeats 4000000 in
theorem c_X11_house {l : Launch} {n0 : Nat} {D : va_G} {cA : Nat → ClassId} {M : gM} (a b : Int) (r_a : -2147483648 ≤ a ∧ a ≤ 2147483647) (r_b : -2147483648 ≤ b ∧ b ≤ 2147483647) {sz : Nat} (hsz : 206 ≤ sz) (f_0_0 : M 0 0 = 2) (f_1_6 : M 1 6 = 16) (f_15_8 : M 15 8 = 0) (f_15_0 : M 15 0 = 17) (beds : ∀ i : Int, 0 ≤ i → i < 4 → M 16 i = 2) : Met l yX11_house (gWsOf yX11_house cX11_house 5 (Option.some Jvm.ClassFile.FieldType.int)) { frames := 1, cells := 0, slots := 0, locals := 22 } (gPc n0 D cA [gA n0 0, gJ a, gJ b] M sz) (gQi n0 D cA sz (fun z M1 => (((¬(0 ≤ a ∧ a ≤ 4)) → z = -1) ∧ (¬(¬(0 ≤ a ∧ a ≤ 4)) → ((a = 4 ∧ ¬(0 ≤ b ∧ b ≤ 9999)) ∨ (¬ a = 4 ∧ ¬(0 ≤ b ∧ b ≤ 20))) → z = -2) ∧ (¬(¬(0 ≤ a ∧ a ≤ 4)) → ¬((a = 4 ∧ ¬(0 ≤ b ∧ b ≤ 9999)) ∨ (¬ a = 4 ∧ ¬(0 ≤ b ∧ b ≤ 20))) → ((a = 4 → z = 0) ∧ (¬ a = 4 → z = 2)))) ∧ ∀ a : Int, a ≠ 15 → a ≠ 16 → M1 a = M a)) 0 0 (fun q => n0 ≤ q) := by
  refine gMet_of [gA n0 0, gJ a, gJ b] (by decide) (Nat.le_of_ble_eq_true rfl) ?_
  intro p e s m args below meth cd X hr hm
  have X : gCx p s m args meth cd n0 D cA "ParishUnion" cX11_house 5 := X
  show G p l e ({ frames := 1, cells := 0, slots := 0, locals := 22 } : Room) s m args below meth cd n0 D cA 5 (MQ below (gQi n0 D cA sz (fun z M1 => (((¬(0 ≤ a ∧ a ≤ 4)) → z = -1) ∧ (¬(¬(0 ≤ a ∧ a ≤ 4)) → ((a = 4 ∧ ¬(0 ≤ b ∧ b ≤ 9999)) ∨ (¬ a = 4 ∧ ¬(0 ≤ b ∧ b ≤ 20))) → z = -2) ∧ (¬(¬(0 ≤ a ∧ a ≤ 4)) → ¬((a = 4 ∧ ¬(0 ≤ b ∧ b ≤ 9999)) ∨ (¬ a = 4 ∧ ¬(0 ≤ b ∧ b ≤ 20))) → ((a = 4 → z = 0) ∧ (¬ a = 4 → z = 2)))) ∧ ∀ a : Int, a ≠ 15 → a ≠ 16 → M1 a = M a)) args s 0 0 (fun q => n0 ≤ q)) 0 0 M sz 0 [(0, gA n0 0), (1, gJ a), (2, gJ b)] []
  refine g_iload_n (n := 1) X 1 dX11_house_0 rfl rfl rfl ?_
  refine g_iconst (n := 2) X dX11_house_1 rfl ?_
  refine g_iconst (n := 3) X dX11_house_2 rfl ?_
  refine g_callSi (n := 6) (As := [gJ a, gJ 0, gJ 4]) (rest := []) (cs1 := 0) (ss1 := 0) X (c_X11_within a 0 4 (by omega) (by omega) (by omega) (by omega)) okX11_within kw_3_29 kw_3_30 ⟨rfl, rfl⟩ ⟨Nat.le_of_ble_eq_true rfl, Nat.le_of_ble_eq_true rfl⟩ rfl rfl (Nat.le_of_ble_eq_true rfl) ⟨Nat.le_of_ble_eq_true rfl, Nat.le_of_ble_eq_true rfl⟩ rfl rfl dX11_house_3 rfl (fun z1 M2 P3 => ?_)
  obtain ⟨rfl, P3⟩ := P3
  refine g_if_ne (n := 9) (tgt := 11) X dX11_house_6 (by decide) (by omega) rfl (fun c4 => ?_) (fun c4 => ?_)
  · refine g_iload_n (n := 12) X 2 dX11_house_11 rfl rfl rfl ?_
    refine g_iconst (n := 13) X dX11_house_12 rfl ?_
    refine g_iload_n (n := 14) X 1 dX11_house_13 rfl rfl rfl ?_
    refine g_iconst (n := 15) X dX11_house_14 rfl ?_
    refine g_icmp_ne (n := 18) (tgt := 24) X dX11_house_15 (by decide) (by omega) (by omega) rfl (fun c5 => ?_) (fun c5 => ?_)
    · refine g_bipush (n := 26) X dX11_house_24 (by decide +kernel) rfl ?_
      refine g_callSi (n := 29) (As := [gJ b, gJ 0, gJ 20]) (rest := []) (cs1 := 0) (ss1 := 0) X (c_X11_within b 0 20 (by omega) (by omega) (by omega) (by omega)) okX11_within kw_3_29 kw_3_30 ⟨rfl, rfl⟩ ⟨Nat.le_of_ble_eq_true rfl, Nat.le_of_ble_eq_true rfl⟩ rfl rfl (Nat.le_of_ble_eq_true rfl) ⟨Nat.le_of_ble_eq_true rfl, Nat.le_of_ble_eq_true rfl⟩ rfl rfl dX11_house_26 rfl (fun z6 M7 P8 => ?_)
      obtain ⟨rfl, P8⟩ := P8
      refine g_if_ne (n := 32) (tgt := 35) X dX11_house_29 (by decide) (by omega) rfl (fun c9 => ?_) (fun c9 => ?_)
      · refine g_aload_n (n := 36) X 0 dX11_house_35 rfl rfl rfl ?_
        refine gg_11_0 (n := 39) (z := 1) X (by omega) (by omega) lay_0 kw_2_231 dX11_house_36 rfl f_0_0 (by omega) ?_
        refine gg_9_6 (n := 42) (z := 15) X (by omega) (by omega) lay_1 kw_2_119 dX11_house_39 rfl f_1_6 (by omega) ?_
        refine g_astore_n (n := 43) (L' := [(3, gA n0 15), (0, gA n0 0), (1, gJ a), (2, gJ b)]) X dX11_house_42 rfl (by decide) rfl rfl ?_
        refine g_iload_n (n := 44) X 2 dX11_house_43 rfl rfl rfl ?_
        refine g_iconst (n := 45) X dX11_house_44 rfl ?_
        refine g_icmp_ne (n := 48) (tgt := 55) X dX11_house_45 (by decide) (by omega) (by omega) rfl (fun c10 => ?_) (fun c10 => ?_)
        · refine g_aload_n (n := 56) X 0 dX11_house_55 rfl rfl rfl ?_
          refine gg_2_0 (n := 59) (z := 16) X (by omega) (by omega) lay_15 kw_1_97 dX11_house_56 rfl f_15_0 (by omega) ?_
          refine g_iload_n (n := 60) X 2 dX11_house_59 rfl rfl rfl ?_
          refine g_iald (n := 61) X (by omega) (by omega) lay_16 (by omega) (by omega) (by omega) dX11_house_60 rfl ?_
          rw [show M 16 a = 2 from (beds _ (by omega) (by omega))]
          refine g_istore (n := 63) (L' := [(4, gJ 2), (3, gA n0 15), (0, gA n0 0), (1, gJ a), (2, gJ b)]) X dX11_house_61 (by decide) rfl rfl ?_
          refine g_iload_n (n := 64) X 3 dX11_house_63 rfl rfl rfl ?_
          refine g_iconst (n := 65) X dX11_house_64 rfl ?_
          refine g_icmp_ne (n := 68) (tgt := 76) X dX11_house_65 (by decide) (by omega) (by omega) rfl (fun c11 => ?_) (fun c11 => ?_)
          · refine g_aload_n (n := 77) X 1 dX11_house_76 rfl rfl rfl ?_
            refine gg_2_0 (n := 80) (z := 16) X (by omega) (by omega) lay_15 kw_1_97 dX11_house_77 rfl f_15_0 (by omega) ?_
            refine g_iload_n (n := 81) X 3 dX11_house_80 rfl rfl rfl ?_
            refine g_iload_n (n := 82) X 4 dX11_house_81 rfl rfl rfl ?_
            refine g_iast (n := 83) X (by omega) (by omega) lay_16 (by omega) (by omega) (by omega) dX11_house_82 rfl ?_
            refine G.nm (fun M12 e13 => ?_)
            refine g_iload (n := 85) X 0 dX11_house_83 rfl rfl ?_
            exact g_ireturn X hr dX11_house_85 (by exact ⟨by omega, fun a h0 h1 => ((congrFun e13 a).trans ((gset_off a (by omega)).trans rfl))⟩)
          · refine g_aload_n (n := 69) X 1 dX11_house_68 rfl rfl rfl ?_
            refine g_iload_n (n := 70) X 4 dX11_house_69 rfl rfl rfl ?_
            refine gp_2_8 (n := 73) X (by omega) (by omega) lay_15 kw_1_111 dX11_house_70 rfl ?_
            refine G.nm (fun M14 e15 => ?_)
            refine g_goto (tgt := 83) X dX11_house_73 (by decide) ?_
            refine g_iload (n := 85) X 0 dX11_house_83 rfl rfl ?_
            exact g_ireturn X hr dX11_house_85 (by exact ⟨by omega, fun a h0 h1 => ((congrFun e15 a).trans ((gset_off a (by omega)).trans rfl))⟩)
        · refine g_aload_n (n := 49) X 0 dX11_house_48 rfl rfl rfl ?_
          refine gg_2_8 (n := 52) (z := 0) X (by omega) (by omega) lay_15 kw_1_111 dX11_house_49 rfl f_15_8 ?_
          refine g_goto (tgt := 61) X dX11_house_52 (by decide) ?_
          refine g_istore (n := 63) (L' := [(4, gJ 0), (3, gA n0 15), (0, gA n0 0), (1, gJ a), (2, gJ b)]) X dX11_house_61 (by decide) rfl rfl ?_
          refine g_iload_n (n := 64) X 3 dX11_house_63 rfl rfl rfl ?_
          refine g_iconst (n := 65) X dX11_house_64 rfl ?_
          refine g_icmp_ne (n := 68) (tgt := 76) X dX11_house_65 (by decide) (by omega) (by omega) rfl (fun c16 => ?_) (fun c16 => ?_)
          · refine g_aload_n (n := 77) X 1 dX11_house_76 rfl rfl rfl ?_
            refine gg_2_0 (n := 80) (z := 16) X (by omega) (by omega) lay_15 kw_1_97 dX11_house_77 rfl f_15_0 (by omega) ?_
            refine g_iload_n (n := 81) X 3 dX11_house_80 rfl rfl rfl ?_
            refine g_iload_n (n := 82) X 4 dX11_house_81 rfl rfl rfl ?_
            refine g_iast (n := 83) X (by omega) (by omega) lay_16 (by omega) (by omega) (by omega) dX11_house_82 rfl ?_
            refine G.nm (fun M17 e18 => ?_)
            refine g_iload (n := 85) X 0 dX11_house_83 rfl rfl ?_
            exact g_ireturn X hr dX11_house_85 (by exact ⟨by omega, fun a h0 h1 => ((congrFun e18 a).trans ((gset_off a (by omega)).trans rfl))⟩)
          · refine g_aload_n (n := 69) X 1 dX11_house_68 rfl rfl rfl ?_
            refine g_iload_n (n := 70) X 4 dX11_house_69 rfl rfl rfl ?_
            refine gp_2_8 (n := 73) X (by omega) (by omega) lay_15 kw_1_111 dX11_house_70 rfl ?_
            refine G.nm (fun M19 e20 => ?_)
            refine g_goto (tgt := 83) X dX11_house_73 (by decide) ?_
            refine g_iload (n := 85) X 0 dX11_house_83 rfl rfl ?_
            exact g_ireturn X hr dX11_house_85 (by exact ⟨by omega, fun a h0 h1 => ((congrFun e20 a).trans ((gset_off a (by omega)).trans rfl))⟩)
      · refine g_bipush (n := 34) X dX11_house_32 (by decide +kernel) rfl ?_
        exact g_ireturn X hr dX11_house_34 (by exact ⟨by omega, fun a h0 h1 => rfl⟩)
    · refine g_sipush (n := 21) X dX11_house_18 (by decide +kernel) rfl ?_
      refine g_goto (tgt := 26) X dX11_house_21 (by decide) ?_
      refine g_callSi (n := 29) (As := [gJ b, gJ 0, gJ 9999]) (rest := []) (cs1 := 0) (ss1 := 0) X (c_X11_within b 0 9999 (by omega) (by omega) (by omega) (by omega)) okX11_within kw_3_29 kw_3_30 ⟨rfl, rfl⟩ ⟨Nat.le_of_ble_eq_true rfl, Nat.le_of_ble_eq_true rfl⟩ rfl rfl (Nat.le_of_ble_eq_true rfl) ⟨Nat.le_of_ble_eq_true rfl, Nat.le_of_ble_eq_true rfl⟩ rfl rfl dX11_house_26 rfl (fun z21 M22 P23 => ?_)
      obtain ⟨rfl, P23⟩ := P23
      refine g_if_ne (n := 32) (tgt := 35) X dX11_house_29 (by decide) (by omega) rfl (fun c24 => ?_) (fun c24 => ?_)
      · refine g_aload_n (n := 36) X 0 dX11_house_35 rfl rfl rfl ?_
        refine gg_11_0 (n := 39) (z := 1) X (by omega) (by omega) lay_0 kw_2_231 dX11_house_36 rfl f_0_0 (by omega) ?_
        refine gg_9_6 (n := 42) (z := 15) X (by omega) (by omega) lay_1 kw_2_119 dX11_house_39 rfl f_1_6 (by omega) ?_
        refine g_astore_n (n := 43) (L' := [(3, gA n0 15), (0, gA n0 0), (1, gJ a), (2, gJ b)]) X dX11_house_42 rfl (by decide) rfl rfl ?_
        refine g_iload_n (n := 44) X 2 dX11_house_43 rfl rfl rfl ?_
        refine g_iconst (n := 45) X dX11_house_44 rfl ?_
        refine g_icmp_ne (n := 48) (tgt := 55) X dX11_house_45 (by decide) (by omega) (by omega) rfl (fun c25 => ?_) (fun c25 => ?_)
        · refine g_aload_n (n := 56) X 0 dX11_house_55 rfl rfl rfl ?_
          refine gg_2_0 (n := 59) (z := 16) X (by omega) (by omega) lay_15 kw_1_97 dX11_house_56 rfl f_15_0 (by omega) ?_
          refine g_iload_n (n := 60) X 2 dX11_house_59 rfl rfl rfl ?_
          refine g_iald (n := 61) X (by omega) (by omega) lay_16 (by omega) (by omega) (by omega) dX11_house_60 rfl ?_
          rw [show M 16 a = 2 from (beds _ (by omega) (by omega))]
          refine g_istore (n := 63) (L' := [(4, gJ 2), (3, gA n0 15), (0, gA n0 0), (1, gJ a), (2, gJ b)]) X dX11_house_61 (by decide) rfl rfl ?_
          refine g_iload_n (n := 64) X 3 dX11_house_63 rfl rfl rfl ?_
          refine g_iconst (n := 65) X dX11_house_64 rfl ?_
          refine g_icmp_ne (n := 68) (tgt := 76) X dX11_house_65 (by decide) (by omega) (by omega) rfl (fun c26 => ?_) (fun c26 => ?_)
          · refine g_aload_n (n := 77) X 1 dX11_house_76 rfl rfl rfl ?_
            refine gg_2_0 (n := 80) (z := 16) X (by omega) (by omega) lay_15 kw_1_97 dX11_house_77 rfl f_15_0 (by omega) ?_
            refine g_iload_n (n := 81) X 3 dX11_house_80 rfl rfl rfl ?_
            refine g_iload_n (n := 82) X 4 dX11_house_81 rfl rfl rfl ?_
            refine g_iast (n := 83) X (by omega) (by omega) lay_16 (by omega) (by omega) (by omega) dX11_house_82 rfl ?_
            refine G.nm (fun M27 e28 => ?_)
            refine g_iload (n := 85) X 0 dX11_house_83 rfl rfl ?_
            exact g_ireturn X hr dX11_house_85 (by exact ⟨by omega, fun a h0 h1 => ((congrFun e28 a).trans ((gset_off a (by omega)).trans rfl))⟩)
          · refine g_aload_n (n := 69) X 1 dX11_house_68 rfl rfl rfl ?_
            refine g_iload_n (n := 70) X 4 dX11_house_69 rfl rfl rfl ?_
            refine gp_2_8 (n := 73) X (by omega) (by omega) lay_15 kw_1_111 dX11_house_70 rfl ?_
            refine G.nm (fun M29 e30 => ?_)
            refine g_goto (tgt := 83) X dX11_house_73 (by decide) ?_
            refine g_iload (n := 85) X 0 dX11_house_83 rfl rfl ?_
            exact g_ireturn X hr dX11_house_85 (by exact ⟨by omega, fun a h0 h1 => ((congrFun e30 a).trans ((gset_off a (by omega)).trans rfl))⟩)
        · refine g_aload_n (n := 49) X 0 dX11_house_48 rfl rfl rfl ?_
          refine gg_2_8 (n := 52) (z := 0) X (by omega) (by omega) lay_15 kw_1_111 dX11_house_49 rfl f_15_8 ?_
          refine g_goto (tgt := 61) X dX11_house_52 (by decide) ?_
          refine g_istore (n := 63) (L' := [(4, gJ 0), (3, gA n0 15), (0, gA n0 0), (1, gJ a), (2, gJ b)]) X dX11_house_61 (by decide) rfl rfl ?_
          refine g_iload_n (n := 64) X 3 dX11_house_63 rfl rfl rfl ?_
          refine g_iconst (n := 65) X dX11_house_64 rfl ?_
          refine g_icmp_ne (n := 68) (tgt := 76) X dX11_house_65 (by decide) (by omega) (by omega) rfl (fun c31 => ?_) (fun c31 => ?_)
          · refine g_aload_n (n := 77) X 1 dX11_house_76 rfl rfl rfl ?_
            refine gg_2_0 (n := 80) (z := 16) X (by omega) (by omega) lay_15 kw_1_97 dX11_house_77 rfl f_15_0 (by omega) ?_
            refine g_iload_n (n := 81) X 3 dX11_house_80 rfl rfl rfl ?_
            refine g_iload_n (n := 82) X 4 dX11_house_81 rfl rfl rfl ?_
            refine g_iast (n := 83) X (by omega) (by omega) lay_16 (by omega) (by omega) (by omega) dX11_house_82 rfl ?_
            refine G.nm (fun M32 e33 => ?_)
            refine g_iload (n := 85) X 0 dX11_house_83 rfl rfl ?_
            exact g_ireturn X hr dX11_house_85 (by exact ⟨by omega, fun a h0 h1 => ((congrFun e33 a).trans ((gset_off a (by omega)).trans rfl))⟩)
          · refine g_aload_n (n := 69) X 1 dX11_house_68 rfl rfl rfl ?_
            refine g_iload_n (n := 70) X 4 dX11_house_69 rfl rfl rfl ?_
            refine gp_2_8 (n := 73) X (by omega) (by omega) lay_15 kw_1_111 dX11_house_70 rfl ?_
            refine G.nm (fun M34 e35 => ?_)
            refine g_goto (tgt := 83) X dX11_house_73 (by decide) ?_
            refine g_iload (n := 85) X 0 dX11_house_83 rfl rfl ?_
            exact g_ireturn X hr dX11_house_85 (by exact ⟨by omega, fun a h0 h1 => ((congrFun e35 a).trans ((gset_off a (by omega)).trans rfl))⟩)
      · refine g_bipush (n := 34) X dX11_house_32 (by decide +kernel) rfl ?_
        exact g_ireturn X hr dX11_house_34 (by exact ⟨by omega, fun a h0 h1 => rfl⟩)
  · refine g_iconst (n := 10) X dX11_house_9 rfl ?_
    exact g_ireturn X hr dX11_house_10 (by exact ⟨by omega, fun a h0 h1 => rfl⟩)
theorem dX11_frost_0 : decode cX11_frost 0 = .ok (.iload_n 1, 1) := by decide +kernel
theorem dX11_frost_1 : decode cX11_frost 1 = .ok (.iconst 0, 1) := by decide +kernel
theorem dX11_frost_2 : decode cX11_frost 2 = .ok (.sipush 300, 3) := by decide +kernel
theorem dX11_frost_5 : decode cX11_frost 5 = .ok (.invokestatic 62, 3) := by decide +kernel
theorem dX11_frost_8 : decode cX11_frost 8 = .ok (.ifCond .eq 13, 3) := by decide +kernel
theorem dX11_frost_21 : decode cX11_frost 21 = .ok (.bipush (-2), 2) := by decide +kernel
theorem dX11_frost_23 : decode cX11_frost 23 = .ok (.ireturn, 1) := by decide +kernel
theorem dX11_frost_11 : decode cX11_frost 11 = .ok (.iload_n 2, 1) := by decide +kernel
theorem dX11_frost_12 : decode cX11_frost 12 = .ok (.iconst 0, 1) := by decide +kernel
theorem dX11_frost_13 : decode cX11_frost 13 = .ok (.bipush 9, 2) := by decide +kernel
theorem dX11_frost_15 : decode cX11_frost 15 = .ok (.invokestatic 62, 3) := by decide +kernel
theorem dX11_frost_18 : decode cX11_frost 18 = .ok (.ifCond .ne 6, 3) := by decide +kernel
theorem dX11_frost_24 : decode cX11_frost 24 = .ok (.iload_n 1, 1) := by decide +kernel
theorem dX11_frost_25 : decode cX11_frost 25 = .ok (.aload_n 0, 1) := by decide +kernel
theorem dX11_frost_26 : decode cX11_frost 26 = .ok (.getfield 10, 3) := by decide +kernel
theorem dX11_frost_29 : decode cX11_frost 29 = .ok (.getfield 85, 3) := by decide +kernel
theorem dX11_frost_32 : decode cX11_frost 32 = .ok (.if_icmp .ge 6, 3) := by decide +kernel
theorem dX11_frost_38 : decode cX11_frost 38 = .ok (.aload_n 0, 1) := by decide +kernel
theorem dX11_frost_39 : decode cX11_frost 39 = .ok (.getfield 10, 3) := by decide +kernel
theorem dX11_frost_42 : decode cX11_frost 42 = .ok (.getfield 279, 3) := by decide +kernel
theorem dX11_frost_45 : decode cX11_frost 45 = .ok (.getfield 291, 3) := by decide +kernel
theorem kw_1_100 : (Jvm.Cond.fieldLink "ParishUnion" (291 : Nat) "ParishUnion$House" "frost" "[I") ∈ gT := gT_of (tb_1 _ (List.mem_of_getElem? (i := 100) rfl)) rfl
theorem dX11_frost_48 : decode cX11_frost 48 = .ok (.iload_n 1, 1) := by decide +kernel
theorem dX11_frost_49 : decode cX11_frost 49 = .ok (.iaload, 1) := by decide +kernel
theorem dX11_frost_50 : decode cX11_frost 50 = .ok (.istore_n 3, 1) := by decide +kernel
theorem dX11_frost_51 : decode cX11_frost 51 = .ok (.aload_n 0, 1) := by decide +kernel
theorem dX11_frost_52 : decode cX11_frost 52 = .ok (.getfield 10, 3) := by decide +kernel
theorem dX11_frost_55 : decode cX11_frost 55 = .ok (.getfield 279, 3) := by decide +kernel
theorem dX11_frost_58 : decode cX11_frost 58 = .ok (.getfield 291, 3) := by decide +kernel
theorem dX11_frost_61 : decode cX11_frost 61 = .ok (.iload_n 1, 1) := by decide +kernel
theorem dX11_frost_62 : decode cX11_frost 62 = .ok (.iload_n 2, 1) := by decide +kernel
theorem dX11_frost_63 : decode cX11_frost 63 = .ok (.iastore, 1) := by decide +kernel
theorem dX11_frost_64 : decode cX11_frost 64 = .ok (.iload_n 3, 1) := by decide +kernel
theorem dX11_frost_65 : decode cX11_frost 65 = .ok (.ireturn, 1) := by decide +kernel
theorem dX11_frost_35 : decode cX11_frost 35 = .ok (.bipush (-3), 2) := by decide +kernel
theorem dX11_frost_37 : decode cX11_frost 37 = .ok (.ireturn, 1) := by decide +kernel
set_option maxRecDepth 100000 in
set_option maxHeartbeats 4000000 in
theorem c_X11_frost {l : Launch} {n0 : Nat} {D : va_G} {cA : Nat → ClassId} {M : gM} (a b : Int) (r_a : -2147483648 ≤ a ∧ a ≤ 2147483647) (r_b : -2147483648 ≤ b ∧ b ≤ 2147483647) {sz : Nat} (hsz : 206 ≤ sz) (f_0_0 : M 0 0 = 2) (f_1_6 : M 1 6 = 16) (f_1_15 : M 1 15 = 0) (f_15_1 : M 15 1 = 18) (frost0 : ∀ i : Int, 0 ≤ i → i < 301 → M 17 i = 0) : Met l yX11_frost (gWsOf yX11_frost cX11_frost 4 (Option.some Jvm.ClassFile.FieldType.int)) { frames := 1, cells := 0, slots := 0, locals := 22 } (gPc n0 D cA [gA n0 0, gJ a, gJ b] M sz) (gQi n0 D cA sz (fun z M1 => (((¬(0 ≤ a ∧ a ≤ 300) ∨ ¬(0 ≤ b ∧ b ≤ 9)) → z = -2) ∧ (¬(¬(0 ≤ a ∧ a ≤ 300) ∨ ¬(0 ≤ b ∧ b ≤ 9)) → (z = 0))) ∧ ∀ a : Int, a ≠ 17 → M1 a = M a)) 0 0 (fun q => n0 ≤ q) := by
  refine gMet_of [gA n0 0, gJ a, gJ b] (by decide) (Nat.le_of_ble_eq_true rfl) ?_
  intro p e s m args below meth cd X hr hm
  have X : gCx p s m args meth cd n0 D cA "ParishUnion" cX11_frost 4 := X
  show G p l e ({ frames := 1, cells := 0, slots := 0, locals := 22 } : Room) s m args below meth cd n0 D cA 4 (MQ below (gQi n0 D cA sz (fun z M1 => (((¬(0 ≤ a ∧ a ≤ 300) ∨ ¬(0 ≤ b ∧ b ≤ 9)) → z = -2) ∧ (¬(¬(0 ≤ a ∧ a ≤ 300) ∨ ¬(0 ≤ b ∧ b ≤ 9)) → (z = 0))) ∧ ∀ a : Int, a ≠ 17 → M1 a = M a)) args s 0 0 (fun q => n0 ≤ q)) 0 0 M sz 0 [(0, gA n0 0), (1, gJ a), (2, gJ b)] []
  refine g_iload_n (n := 1) X 1 dX11_frost_0 rfl rfl rfl ?_
  refine g_iconst (n := 2) X dX11_frost_1 rfl ?_
  refine g_sipush (n := 5) X dX11_frost_2 (by decide +kernel) rfl ?_
  refine g_callSi (n := 8) (As := [gJ a, gJ 0, gJ 300]) (rest := []) (cs1 := 0) (ss1 := 0) X (c_X11_within a 0 300 (by omega) (by omega) (by omega) (by omega)) okX11_within kw_3_29 kw_3_30 ⟨rfl, rfl⟩ ⟨Nat.le_of_ble_eq_true rfl, Nat.le_of_ble_eq_true rfl⟩ rfl rfl (Nat.le_of_ble_eq_true rfl) ⟨Nat.le_of_ble_eq_true rfl, Nat.le_of_ble_eq_true rfl⟩ rfl rfl dX11_frost_5 rfl (fun z1 M2 P3 => ?_)
  obtain ⟨rfl, P3⟩ := P3
  refine g_if_eq (n := 11) (tgt := 21) X dX11_frost_8 (by decide) (by omega) rfl (fun c4 => ?_) (fun c4 => ?_)
  · refine g_bipush (n := 23) X dX11_frost_21 (by decide +kernel) rfl ?_
    exact g_ireturn X hr dX11_frost_23 (by exact ⟨by omega, fun a h0 => rfl⟩)
  · refine g_iload_n (n := 12) X 2 dX11_frost_11 rfl rfl rfl ?_
    refine g_iconst (n := 13) X dX11_frost_12 rfl ?_
    refine g_bipush (n := 15) X dX11_frost_13 (by decide +kernel) rfl ?_
    refine g_callSi (n := 18) (As := [gJ b, gJ 0, gJ 9]) (rest := []) (cs1 := 0) (ss1 := 0) X (c_X11_within b 0 9 (by omega) (by omega) (by omega) (by omega)) okX11_within kw_3_29 kw_3_30 ⟨rfl, rfl⟩ ⟨Nat.le_of_ble_eq_true rfl, Nat.le_of_ble_eq_true rfl⟩ rfl rfl (Nat.le_of_ble_eq_true rfl) ⟨Nat.le_of_ble_eq_true rfl, Nat.le_of_ble_eq_true rfl⟩ rfl rfl dX11_frost_15 rfl (fun z5 M6 P7 => ?_)
    obtain ⟨rfl, P7⟩ := P7
    refine g_if_ne (n := 21) (tgt := 24) X dX11_frost_18 (by decide) (by omega) rfl (fun c8 => ?_) (fun c8 => ?_)
    · refine g_iload_n (n := 25) X 1 dX11_frost_24 rfl rfl rfl ?_
      refine g_aload_n (n := 26) X 0 dX11_frost_25 rfl rfl rfl ?_
      refine gg_11_0 (n := 29) (z := 1) X (by omega) (by omega) lay_0 kw_2_231 dX11_frost_26 rfl f_0_0 (by omega) ?_
      refine gg_9_15 (n := 32) (z := 0) X (by omega) (by omega) lay_1 kw_2_139 dX11_frost_29 rfl f_1_15 ?_
      refine g_icmp_ge (n := 35) (tgt := 38) X dX11_frost_32 (by decide) (by omega) (by omega) rfl (fun c9 => ?_) (fun c9 => ?_)
      · refine g_aload_n (n := 39) X 0 dX11_frost_38 rfl rfl rfl ?_
        refine gg_11_0 (n := 42) (z := 1) X (by omega) (by omega) lay_0 kw_2_231 dX11_frost_39 rfl f_0_0 (by omega) ?_
        refine gg_9_6 (n := 45) (z := 15) X (by omega) (by omega) lay_1 kw_2_119 dX11_frost_42 rfl f_1_6 (by omega) ?_
        refine gg_2_1 (n := 48) (z := 17) X (by omega) (by omega) lay_15 kw_1_100 dX11_frost_45 rfl f_15_1 (by omega) ?_
        refine g_iload_n (n := 49) X 1 dX11_frost_48 rfl rfl rfl ?_
        refine g_iald (n := 50) X (by omega) (by omega) lay_17 (by omega) (by omega) (by omega) dX11_frost_49 rfl ?_
        rw [show M 17 a = 0 from (frost0 _ (by omega) (by omega))]
        refine g_istore_n (n := 51) (L' := [(3, gJ 0), (0, gA n0 0), (1, gJ a), (2, gJ b)]) X dX11_frost_50 rfl (by decide) rfl rfl ?_
        refine g_aload_n (n := 52) X 1 dX11_frost_51 rfl rfl rfl ?_
        refine gg_11_0 (n := 55) (z := 1) X (by omega) (by omega) lay_0 kw_2_231 dX11_frost_52 rfl f_0_0 (by omega) ?_
        refine gg_9_6 (n := 58) (z := 15) X (by omega) (by omega) lay_1 kw_2_119 dX11_frost_55 rfl f_1_6 (by omega) ?_
        refine gg_2_1 (n := 61) (z := 17) X (by omega) (by omega) lay_15 kw_1_100 dX11_frost_58 rfl f_15_1 (by omega) ?_
        refine g_iload_n (n := 62) X 2 dX11_frost_61 rfl rfl rfl ?_
        refine g_iload_n (n := 63) X 3 dX11_frost_62 rfl rfl rfl ?_
        refine g_iast (n := 64) X (by omega) (by omega) lay_17 (by omega) (by omega) (by omega) dX11_frost_63 rfl ?_
        refine G.nm (fun M10 e11 => ?_)
        refine g_iload_n (n := 65) X 0 dX11_frost_64 rfl rfl rfl ?_
        exact g_ireturn X hr dX11_frost_65 (by exact ⟨by omega, fun a h0 => ((congrFun e11 a).trans ((gset_off a (by omega)).trans rfl))⟩)
      · refine g_bipush (n := 37) X dX11_frost_35 (by decide +kernel) rfl ?_
        exact g_ireturn X hr dX11_frost_37 (by exact ⟨by omega, fun a h0 => rfl⟩)
    · refine g_bipush (n := 23) X dX11_frost_21 (by decide +kernel) rfl ?_
      exact g_ireturn X hr dX11_frost_23 (by exact ⟨by omega, fun a h0 => rfl⟩)
theorem dX9_newsIn_0 : decode cX9_newsIn 0 = .ok (.aload_n 0, 1) := by decide +kernel
theorem dX9_newsIn_1 : decode cX9_newsIn 1 = .ok (.getfield 12, 3) := by decide +kernel
theorem kw_2_104 : (Jvm.Cond.fieldLink "ParishUnion$Union" (12 : Nat) "ParishUnion$Union" "land" "LParishUnion$Land;") ∈ gT := gT_of (tb_2 _ (List.mem_of_getElem? (i := 104) rfl)) rfl
theorem dX9_newsIn_4 : decode cX9_newsIn 4 = .ok (.iconst 0, 1) := by decide +kernel
theorem dX9_newsIn_5 : decode cX9_newsIn 5 = .ok (.iload_n 1, 1) := by decide +kernel
theorem dX9_newsIn_6 : decode cX9_newsIn 6 = .ok (.invokevirtual 177, 3) := by decide +kernel
theorem kw_4_175 : (Jvm.Cond.methodLink "ParishUnion$Union" (177 : Nat) ({ cls := "ParishUnion$Land", name := "distance", desc := "(II)I" } : Jvm.MethodName)) ∈ gT := gT_of (tb_4 _ (List.mem_of_getElem? (i := 175) rfl)) rfl
theorem dX9_newsIn_9 : decode cX9_newsIn 9 = .ok (.istore_n 3, 1) := by decide +kernel
theorem dX9_newsIn_10 : decode cX9_newsIn 10 = .ok (.iload_n 2, 1) := by decide +kernel
theorem dX9_newsIn_11 : decode cX9_newsIn 11 = .ok (.iload_n 3, 1) := by decide +kernel
theorem dX9_newsIn_12 : decode cX9_newsIn 12 = .ok (.isub, 1) := by decide +kernel
theorem dX9_newsIn_13 : decode cX9_newsIn 13 = .ok (.iconst 1, 1) := by decide +kernel
theorem dX9_newsIn_14 : decode cX9_newsIn 14 = .ok (.isub, 1) := by decide +kernel
theorem dX9_newsIn_15 : decode cX9_newsIn 15 = .ok (.aload_n 0, 1) := by decide +kernel
theorem dX9_newsIn_16 : decode cX9_newsIn 16 = .ok (.getfield 110, 3) := by decide +kernel
theorem kw_2_138 : (Jvm.Cond.fieldLink "ParishUnion$Union" (110 : Nat) "ParishUnion$Union" "now" "I") ∈ gT := gT_of (tb_2 _ (List.mem_of_getElem? (i := 138) rfl)) rfl
theorem dX9_newsIn_19 : decode cX9_newsIn 19 = .ok (.iconst 1, 1) := by decide +kernel
theorem dX9_newsIn_20 : decode cX9_newsIn 20 = .ok (.isub, 1) := by decide +kernel
theorem dX9_newsIn_21 : decode cX9_newsIn 21 = .ok (.invokestatic 180, 3) := by decide +kernel
theorem kw_1_14 : (Jvm.Cond.initialized "java/lang/Math") ∈ gT := gT_of (tb_1 _ (List.mem_of_getElem? (i := 14) rfl)) rfl
theorem kw_4_176 : (Jvm.Cond.methodLink "ParishUnion$Union" (180 : Nat) ({ cls := "java/lang/Math", name := "min", desc := "(II)I" } : Jvm.MethodName)) ∈ gT := gT_of (tb_4 _ (List.mem_of_getElem? (i := 176) rfl)) rfl
theorem kw_3_45 : (Jvm.Cond.static ({ cls := "java/lang/Math", name := "min", desc := "(II)I" } : Jvm.MethodName)) ∈ gT := gT_of (tb_3 _ (List.mem_of_getElem? (i := 45) rfl)) rfl
theorem kw_3_46 : (Jvm.Cond.code ({ cls := "java/lang/Math", name := "min", desc := "(II)I" } : Jvm.MethodName) prog_16_method_69_code (2 : Nat) (Option.some Jvm.ClassFile.FieldType.int)) ∈ gT := gT_of (tb_3 _ (List.mem_of_getElem? (i := 46) rfl)) rfl
theorem dX9_newsIn_24 : decode cX9_newsIn 24 = .ok (.istore 4, 2) := by decide +kernel
theorem dX9_newsIn_26 : decode cX9_newsIn 26 = .ok (.iload_n 3, 1) := by decide +kernel
theorem dX9_newsIn_27 : decode cX9_newsIn 27 = .ok (.bipush 99, 2) := by decide +kernel
theorem dX9_newsIn_29 : decode cX9_newsIn 29 = .ok (.if_icmp .eq 8, 3) := by decide +kernel
theorem dX9_newsIn_37 : decode cX9_newsIn 37 = .ok (.iconst 0, 1) := by decide +kernel
theorem dX9_newsIn_38 : decode cX9_newsIn 38 = .ok (.goto 14, 3) := by decide +kernel
theorem dX9_newsIn_52 : decode cX9_newsIn 52 = .ok (.ireturn, 1) := by decide +kernel
theorem dX9_newsIn_32 : decode cX9_newsIn 32 = .ok (.iload 4, 2) := by decide +kernel
theorem dX9_newsIn_34 : decode cX9_newsIn 34 = .ok (.ifCond .ge 7, 3) := by decide +kernel
set_option maxRecDepth 100000 in
set_option maxHeartbeats 4000000 in
theorem c_X9_newsIn {l : Launch} {n0 : Nat} {D : va_G} {cA : Nat → ClassId} {M : gM} (a b : Int) (r_a : -2147483648 ≤ a ∧ a ≤ 2147483647) (r_b : -2147483648 ≤ b ∧ b ≤ 2147483647) {sz : Nat} (hsz : 206 ≤ sz) (f_1_0 : M 1 0 = 3) (f_2_1 : M 2 1 = 5) (f_1_15 : M 1 15 = 0) (f_1_7 : M 1 7 = 24) (f_23_0 : M 23 0 = 25) (hab : 0 ≤ a ∧ a ≤ 5 ∧ 0 ≤ b ∧ b ≤ 300) (way : ∀ i : Int, 0 ≤ i → i < 36 → (i % 7 = 0 → M 4 i = 0) ∧ (¬ i % 7 = 0 → M 4 i = 99)) : Met l yX9_newsIn (gWsOf yX9_newsIn cX9_newsIn 5 (Option.some Jvm.ClassFile.FieldType.int)) { frames := 4, cells := 0, slots := 0, locals := 120 } (gPc n0 D cA [gA n0 1, gJ a, gJ b] M sz) (gQi n0 D cA sz (fun z M1 => M = M1 ∧ (z = 0))) 0 0 (fun q => n0 ≤ q) := by
  refine gMet_of [gA n0 1, gJ a, gJ b] (by decide) (Nat.le_of_ble_eq_true rfl) ?_
  intro p e s m args below meth cd X hr hm
  have X : gCx p s m args meth cd n0 D cA "ParishUnion$Union" cX9_newsIn 5 := X
  show G p l e ({ frames := 4, cells := 0, slots := 0, locals := 120 } : Room) s m args below meth cd n0 D cA 5 (MQ below (gQi n0 D cA sz (fun z M1 => M = M1 ∧ (z = 0))) args s 0 0 (fun q => n0 ≤ q)) 0 0 M sz 0 [(0, gA n0 1), (1, gJ a), (2, gJ b)] []
  refine g_aload_n (n := 1) X 0 dX9_newsIn_0 rfl rfl rfl ?_
  refine gg_9_0 (n := 4) (z := 2) X (by omega) (by omega) lay_1 kw_2_104 dX9_newsIn_1 rfl f_1_0 (by omega) ?_
  refine g_iconst (n := 5) X dX9_newsIn_4 rfl ?_
  refine g_iload_n (n := 6) X 1 dX9_newsIn_5 rfl rfl rfl ?_
  refine g_callVi (n := 9) (As := [gJ 0, gJ a]) (rest := []) (cs1 := 0) (ss1 := 0) X (c_X3_distance 0 a (by omega) (by omega) (by omega) f_2_1 (by omega) way) okX3_distance kw_4_175 ⟨kw_3_41, kw_3_42⟩ ⟨rfl, rfl⟩ ⟨Nat.le_of_ble_eq_true rfl, Nat.le_of_ble_eq_true rfl⟩ rfl (by omega) (by omega) lay_2 rfl rfl (Nat.le_of_ble_eq_true rfl) ⟨Nat.le_of_ble_eq_true rfl, Nat.le_of_ble_eq_true rfl⟩ rfl rfl dX9_newsIn_6 rfl (fun z1 M2 P3 => ?_)
  obtain ⟨rfl, P3⟩ := P3
  refine g_istore_n (n := 10) (L' := [(3, gJ z1), (0, gA n0 1), (1, gJ a), (2, gJ b)]) X dX9_newsIn_9 rfl (by decide) rfl rfl ?_
  refine g_iload_n (n := 11) X 3 dX9_newsIn_10 rfl rfl rfl ?_
  refine g_iload_n (n := 12) X 0 dX9_newsIn_11 rfl rfl rfl ?_
  refine g_isub (n := 13) (z := b - z1) X dX9_newsIn_12 rfl rfl ?_
  refine g_iconst (n := 14) X dX9_newsIn_13 rfl ?_
  refine g_isub (n := 15) (z := (b - z1) - 1) X dX9_newsIn_14 rfl rfl ?_
  refine g_aload_n (n := 16) X 1 dX9_newsIn_15 rfl rfl rfl ?_
  refine gg_9_15 (n := 19) (z := 0) X (by omega) (by omega) lay_1 kw_2_138 dX9_newsIn_16 rfl f_1_15 ?_
  refine g_iconst (n := 20) X dX9_newsIn_19 rfl ?_
  refine g_isub (n := 21) (z := (-1)) X dX9_newsIn_20 rfl rfl ?_
  refine g_mmin (n := 24) X kw_4_176 kw_3_45 kw_1_14 kw_3_46 (by omega) (by omega) (Nat.le_of_ble_eq_true rfl) (Nat.le_of_ble_eq_true rfl) (Nat.le_of_ble_eq_true rfl) (Nat.le_of_ble_eq_true rfl) dX9_newsIn_21 rfl (fun x4 hx4 => ?_)
  refine g_istore (n := 26) (L' := [(4, gJ x4), (3, gJ z1), (0, gA n0 1), (1, gJ a), (2, gJ b)]) X dX9_newsIn_24 (by decide) rfl rfl ?_
  refine g_iload_n (n := 27) X 1 dX9_newsIn_26 rfl rfl rfl ?_
  refine g_bipush (n := 29) X dX9_newsIn_27 (by decide +kernel) rfl ?_
  refine g_icmp_eq (n := 32) (tgt := 37) X dX9_newsIn_29 (by decide) (by omega) (by omega) rfl (fun c5 => ?_) (fun c5 => ?_)
  · refine g_iconst (n := 38) X dX9_newsIn_37 rfl ?_
    refine g_goto (tgt := 52) X dX9_newsIn_38 (by decide) ?_
    exact g_ireturn X hr dX9_newsIn_52 (by exact ⟨rfl, by omega⟩)
  · refine g_iload (n := 34) X 0 dX9_newsIn_32 rfl rfl ?_
    refine g_if_ge (n := 37) (tgt := 41) X dX9_newsIn_34 (by decide) (by omega) rfl (fun c6 => by exfalso; omega) (fun c6 => ?_)
    refine g_iconst (n := 38) X dX9_newsIn_37 rfl ?_
    refine g_goto (tgt := 52) X dX9_newsIn_38 (by decide) ?_
    exact g_ireturn X hr dX9_newsIn_52 (by exact ⟨rfl, by omega⟩)
theorem dX11_heard_0 : decode cX11_heard 0 = .ok (.iload_n 1, 1) := by decide +kernel
theorem dX11_heard_1 : decode cX11_heard 1 = .ok (.invokestatic 58, 3) := by decide +kernel
theorem dX11_heard_4 : decode cX11_heard 4 = .ok (.ifCond .ne 5, 3) := by decide +kernel
theorem dX11_heard_9 : decode cX11_heard 9 = .ok (.iload_n 2, 1) := by decide +kernel
theorem dX11_heard_10 : decode cX11_heard 10 = .ok (.iconst 0, 1) := by decide +kernel
theorem dX11_heard_11 : decode cX11_heard 11 = .ok (.sipush 300, 3) := by decide +kernel
theorem dX11_heard_14 : decode cX11_heard 14 = .ok (.invokestatic 62, 3) := by decide +kernel
theorem dX11_heard_17 : decode cX11_heard 17 = .ok (.ifCond .ne 6, 3) := by decide +kernel
theorem dX11_heard_23 : decode cX11_heard 23 = .ok (.aload_n 0, 1) := by decide +kernel
theorem dX11_heard_24 : decode cX11_heard 24 = .ok (.getfield 10, 3) := by decide +kernel
theorem dX11_heard_27 : decode cX11_heard 27 = .ok (.iload_n 1, 1) := by decide +kernel
theorem dX11_heard_28 : decode cX11_heard 28 = .ok (.iload_n 2, 1) := by decide +kernel
theorem dX11_heard_29 : decode cX11_heard 29 = .ok (.invokevirtual 294, 3) := by decide +kernel
theorem kw_4_171 : (Jvm.Cond.methodLink "ParishUnion" (294 : Nat) ({ cls := "ParishUnion$Union", name := "newsIn", desc := "(II)I" } : Jvm.MethodName)) ∈ gT := gT_of (tb_4 _ (List.mem_of_getElem? (i := 171) rfl)) rfl
theorem kw_4_174 : (Jvm.Cond.code ({ cls := "ParishUnion$Union", name := "newsIn", desc := "(II)I" } : Jvm.MethodName) prog_11_method_10_code (5 : Nat) (Option.some Jvm.ClassFile.FieldType.int)) ∈ gT := gT_of (tb_4 _ (List.mem_of_getElem? (i := 174) rfl)) rfl
theorem kw_1_2 : (Jvm.Cond.initialized "ParishUnion$Union") ∈ gT := gT_of (tb_1 _ (List.mem_of_getElem? (i := 2) rfl)) rfl
theorem okX9_newsIn : gQok yX9_newsIn cX9_newsIn 5 (Option.some Jvm.ClassFile.FieldType.int) 2 := ⟨kw_4_174, kw_1_2, by decide +kernel, by decide +kernel, by decide +kernel⟩
theorem kw_4_172 : (Jvm.Cond.instanceMethod ({ cls := "ParishUnion$Union", name := "newsIn", desc := "(II)I" } : Jvm.MethodName)) ∈ gT := gT_of (tb_4 _ (List.mem_of_getElem? (i := 172) rfl)) rfl
theorem kw_4_173 : (Jvm.Cond.selects "ParishUnion$Union" ({ cls := "ParishUnion$Union", name := "newsIn", desc := "(II)I" } : Jvm.MethodName) ({ cls := "ParishUnion$Union", name := "newsIn", desc := "(II)I" } : Jvm.MethodName)) ∈ gT := gT_of (tb_4 _ (List.mem_of_getElem? (i := 173) rfl)) rfl
theorem dX11_heard_32 : decode cX11_heard 32 = .ok (.ireturn, 1) := by decide +kernel
theorem dX11_heard_20 : decode cX11_heard 20 = .ok (.bipush (-2), 2) := by decide +kernel
theorem dX11_heard_22 : decode cX11_heard 22 = .ok (.ireturn, 1) := by decide +kernel
theorem dX11_heard_7 : decode cX11_heard 7 = .ok (.iconst (-1), 1) := by decide +kernel
theorem dX11_heard_8 : decode cX11_heard 8 = .ok (.ireturn, 1) := by decide +kernel
set_option maxRecDepth 100000 in
set_option maxHeartbeats 4000000 in
theorem c_X11_heard {l : Launch} {n0 : Nat} {D : va_G} {cA : Nat → ClassId} {M : gM} (a b : Int) (r_a : -2147483648 ≤ a ∧ a ≤ 2147483647) (r_b : -2147483648 ≤ b ∧ b ≤ 2147483647) {sz : Nat} (hsz : 206 ≤ sz) (f_0_0 : M 0 0 = 2) (f_1_0 : M 1 0 = 3) (f_2_1 : M 2 1 = 5) (f_1_15 : M 1 15 = 0) (f_1_7 : M 1 7 = 24) (f_23_0 : M 23 0 = 25) (way : ∀ i : Int, 0 ≤ i → i < 36 → (i % 7 = 0 → M 4 i = 0) ∧ (¬ i % 7 = 0 → M 4 i = 99)) : Met l yX11_heard (gWsOf yX11_heard cX11_heard 3 (Option.some Jvm.ClassFile.FieldType.int)) { frames := 5, cells := 0, slots := 0, locals := 144 } (gPc n0 D cA [gA n0 0, gJ a, gJ b] M sz) (gQi n0 D cA sz (fun z M1 => (((¬(0 ≤ a ∧ a ≤ 5)) → z = -1) ∧ (¬(¬(0 ≤ a ∧ a ≤ 5)) → (¬(0 ≤ b ∧ b ≤ 300)) → z = -2) ∧ (¬(¬(0 ≤ a ∧ a ≤ 5)) → ¬(¬(0 ≤ b ∧ b ≤ 300)) → (z = 0))) ∧ ∀ a : Int, M1 a = M a)) 0 0 (fun q => n0 ≤ q) := by
  refine gMet_of [gA n0 0, gJ a, gJ b] (by decide) (Nat.le_of_ble_eq_true rfl) ?_
  intro p e s m args below meth cd X hr hm
  have X : gCx p s m args meth cd n0 D cA "ParishUnion" cX11_heard 3 := X
  show G p l e ({ frames := 5, cells := 0, slots := 0, locals := 144 } : Room) s m args below meth cd n0 D cA 3 (MQ below (gQi n0 D cA sz (fun z M1 => (((¬(0 ≤ a ∧ a ≤ 5)) → z = -1) ∧ (¬(¬(0 ≤ a ∧ a ≤ 5)) → (¬(0 ≤ b ∧ b ≤ 300)) → z = -2) ∧ (¬(¬(0 ≤ a ∧ a ≤ 5)) → ¬(¬(0 ≤ b ∧ b ≤ 300)) → (z = 0))) ∧ ∀ a : Int, M1 a = M a)) args s 0 0 (fun q => n0 ≤ q)) 0 0 M sz 0 [(0, gA n0 0), (1, gJ a), (2, gJ b)] []
  refine g_iload_n (n := 1) X 1 dX11_heard_0 rfl rfl rfl ?_
  refine g_callSi (n := 4) (As := [gJ a]) (rest := []) (cs1 := 0) (ss1 := 0) X (c_X11_isParish a (by omega) (by omega)) okX11_isParish kw_3_26 kw_3_27 ⟨rfl, rfl⟩ ⟨Nat.le_of_ble_eq_true rfl, Nat.le_of_ble_eq_true rfl⟩ rfl rfl (Nat.le_of_ble_eq_true rfl) ⟨Nat.le_of_ble_eq_true rfl, Nat.le_of_ble_eq_true rfl⟩ rfl rfl dX11_heard_1 rfl (fun z1 M2 P3 => ?_)
  obtain ⟨rfl, P3⟩ := P3
  refine g_if_ne (n := 7) (tgt := 9) X dX11_heard_4 (by decide) (by omega) rfl (fun c4 => ?_) (fun c4 => ?_)
  · refine g_iload_n (n := 10) X 2 dX11_heard_9 rfl rfl rfl ?_
    refine g_iconst (n := 11) X dX11_heard_10 rfl ?_
    refine g_sipush (n := 14) X dX11_heard_11 (by decide +kernel) rfl ?_
    refine g_callSi (n := 17) (As := [gJ b, gJ 0, gJ 300]) (rest := []) (cs1 := 0) (ss1 := 0) X (c_X11_within b 0 300 (by omega) (by omega) (by omega) (by omega)) okX11_within kw_3_29 kw_3_30 ⟨rfl, rfl⟩ ⟨Nat.le_of_ble_eq_true rfl, Nat.le_of_ble_eq_true rfl⟩ rfl rfl (Nat.le_of_ble_eq_true rfl) ⟨Nat.le_of_ble_eq_true rfl, Nat.le_of_ble_eq_true rfl⟩ rfl rfl dX11_heard_14 rfl (fun z5 M6 P7 => ?_)
    obtain ⟨rfl, P7⟩ := P7
    refine g_if_ne (n := 20) (tgt := 23) X dX11_heard_17 (by decide) (by omega) rfl (fun c8 => ?_) (fun c8 => ?_)
    · refine g_aload_n (n := 24) X 0 dX11_heard_23 rfl rfl rfl ?_
      refine gg_11_0 (n := 27) (z := 1) X (by omega) (by omega) lay_0 kw_2_231 dX11_heard_24 rfl f_0_0 (by omega) ?_
      refine g_iload_n (n := 28) X 1 dX11_heard_27 rfl rfl rfl ?_
      refine g_iload_n (n := 29) X 2 dX11_heard_28 rfl rfl rfl ?_
      refine g_callVi (n := 32) (As := [gJ a, gJ b]) (rest := []) (cs1 := 0) (ss1 := 0) X (c_X9_newsIn a b (by omega) (by omega) (by omega) f_1_0 f_2_1 f_1_15 f_1_7 f_23_0 (by omega) way) okX9_newsIn kw_4_171 ⟨kw_4_172, kw_4_173⟩ ⟨rfl, rfl⟩ ⟨Nat.le_of_ble_eq_true rfl, Nat.le_of_ble_eq_true rfl⟩ rfl (by omega) (by omega) lay_1 rfl rfl (Nat.le_of_ble_eq_true rfl) ⟨Nat.le_of_ble_eq_true rfl, Nat.le_of_ble_eq_true rfl⟩ rfl rfl dX11_heard_29 rfl (fun z9 M10 P11 => ?_)
      obtain ⟨rfl, rfl⟩ := P11
      exact g_ireturn X hr dX11_heard_32 (by exact ⟨by omega, fun a  => rfl⟩)
    · refine g_bipush (n := 22) X dX11_heard_20 (by decide +kernel) rfl ?_
      exact g_ireturn X hr dX11_heard_22 (by exact ⟨by omega, fun a  => rfl⟩)
  · refine g_iconst (n := 8) X dX11_heard_7 rfl ?_
    exact g_ireturn X hr dX11_heard_8 (by exact ⟨by omega, fun a  => rfl⟩)
