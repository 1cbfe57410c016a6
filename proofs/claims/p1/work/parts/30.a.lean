theorem dX11_feed_0 : decode cX11_feed 0 = .ok (.iload_n 3, 1) := by decide +kernel
theorem dX11_feed_1 : decode cX11_feed 1 = .ok (.iconst 1, 1) := by decide +kernel
theorem dX11_feed_2 : decode cX11_feed 2 = .ok (.bipush 8, 2) := by decide +kernel
theorem dX11_feed_4 : decode cX11_feed 4 = .ok (.invokestatic 62, 3) := by decide +kernel
theorem dX11_feed_7 : decode cX11_feed 7 = .ok (.ifCond .ne 6, 3) := by decide +kernel
theorem dX11_feed_13 : decode cX11_feed 13 = .ok (.aload_n 0, 1) := by decide +kernel
theorem dX11_feed_14 : decode cX11_feed 14 = .ok (.getfield 10, 3) := by decide +kernel
theorem dX11_feed_17 : decode cX11_feed 17 = .ok (.getfield 212, 3) := by decide +kernel
theorem dX11_feed_20 : decode cX11_feed 20 = .ok (.iload_n 3, 1) := by decide +kernel
theorem dX11_feed_21 : decode cX11_feed 21 = .ok (.iadd, 1) := by decide +kernel
theorem dX11_feed_22 : decode cX11_feed 22 = .ok (.sipush 150, 3) := by decide +kernel
theorem dX11_feed_25 : decode cX11_feed 25 = .ok (.if_icmp .le 6, 3) := by decide +kernel
theorem dX11_feed_31 : decode cX11_feed 31 = .ok (.iload_n 3, 1) := by decide +kernel
theorem dX11_feed_32 : decode cX11_feed 32 = .ok (.iconst 1, 1) := by decide +kernel
theorem dX11_feed_33 : decode cX11_feed 33 = .ok (.isub, 1) := by decide +kernel
theorem dX11_feed_34 : decode cX11_feed 34 = .ok (.istore 4, 2) := by decide +kernel
theorem dX11_feed_36 : decode cX11_feed 36 = .ok (.iload 4, 2) := by decide +kernel
theorem dX11_feed_38 : decode cX11_feed 38 = .ok (.ifCond .lt 46, 3) := by decide +kernel
theorem dX11_feed_84 : decode cX11_feed 84 = .ok (.aload_n 0, 1) := by decide +kernel
theorem dX11_feed_85 : decode cX11_feed 85 = .ok (.getfield 10, 3) := by decide +kernel
theorem dX11_feed_88 : decode cX11_feed 88 = .ok (.getfield 212, 3) := by decide +kernel
theorem dX11_feed_91 : decode cX11_feed 91 = .ok (.ireturn, 1) := by decide +kernel
theorem dX11_feed_41 : decode cX11_feed 41 = .ok (.aload_n 0, 1) := by decide +kernel
theorem dX11_feed_42 : decode cX11_feed 42 = .ok (.getfield 10, 3) := by decide +kernel
theorem dX11_feed_45 : decode cX11_feed 45 = .ok (.getfield 215, 3) := by decide +kernel
theorem kw_2_115 : (Jvm.Cond.fieldLink "ParishUnion" (215 : Nat) "ParishUnion$Union" "tape" "[B") ∈ gT := gT_of (tb_2 _ (List.mem_of_getElem? (i := 115) rfl)) rfl
theorem dX11_feed_48 : decode cX11_feed 48 = .ok (.aload_n 0, 1) := by decide +kernel
theorem dX11_feed_49 : decode cX11_feed 49 = .ok (.getfield 10, 3) := by decide +kernel
theorem dX11_feed_52 : decode cX11_feed 52 = .ok (.getfield 212, 3) := by decide +kernel
theorem dX11_feed_55 : decode cX11_feed 55 = .ok (.lload_n 1, 1) := by decide +kernel
theorem dX11_feed_56 : decode cX11_feed 56 = .ok (.bipush 8, 2) := by decide +kernel
theorem dX11_feed_58 : decode cX11_feed 58 = .ok (.iload 4, 2) := by decide +kernel
theorem dX11_feed_60 : decode cX11_feed 60 = .ok (.imul, 1) := by decide +kernel
theorem dX11_feed_61 : decode cX11_feed 61 = .ok (.lushr, 1) := by decide +kernel
theorem dX11_feed_62 : decode cX11_feed 62 = .ok (.l2i, 1) := by decide +kernel
theorem dX11_feed_63 : decode cX11_feed 63 = .ok (.i2b, 1) := by decide +kernel
theorem dX11_feed_64 : decode cX11_feed 64 = .ok (.bastore, 1) := by decide +kernel
theorem dX11_feed_65 : decode cX11_feed 65 = .ok (.aload_n 0, 1) := by decide +kernel
theorem dX11_feed_66 : decode cX11_feed 66 = .ok (.getfield 10, 3) := by decide +kernel
theorem dX11_feed_69 : decode cX11_feed 69 = .ok (.dup, 1) := by decide +kernel
theorem dX11_feed_70 : decode cX11_feed 70 = .ok (.getfield 212, 3) := by decide +kernel
theorem dX11_feed_73 : decode cX11_feed 73 = .ok (.iconst 1, 1) := by decide +kernel
theorem dX11_feed_74 : decode cX11_feed 74 = .ok (.iadd, 1) := by decide +kernel
theorem dX11_feed_75 : decode cX11_feed 75 = .ok (.putfield 212, 3) := by decide +kernel
theorem dX11_feed_78 : decode cX11_feed 78 = .ok (.iinc 4 (-1), 3) := by decide +kernel
theorem dX11_feed_81 : decode cX11_feed 81 = .ok (.goto (-45), 3) := by decide +kernel
theorem dX11_feed_28 : decode cX11_feed 28 = .ok (.bipush (-4), 2) := by decide +kernel
theorem dX11_feed_30 : decode cX11_feed 30 = .ok (.ireturn, 1) := by decide +kernel
theorem dX11_feed_10 : decode cX11_feed 10 = .ok (.bipush (-2), 2) := by decide +kernel
theorem dX11_feed_12 : decode cX11_feed 12 = .ok (.ireturn, 1) := by decide +kernel
set_option maxRecDepth 100000 in
set_option maxHeartbeats 4000000 in
theorem c_X11_feed {l : Launch} {n0 : Nat} {D : va_G} {cA : Nat → ClassId} {M : gM} (d g : Int) (r_d : -9223372036854775808 ≤ d ∧ d ≤ 9223372036854775807) (r_g : -2147483648 ≤ g ∧ g ≤ 2147483647) {sz : Nat} (hsz : 206 ≤ sz) (f_0_0 : M 0 0 = 2) (f_1_14 : M 1 14 = 0) (f_1_4 : M 1 4 = 9) : Met l yX11_feed (gWsOf yX11_feed cX11_feed 5 (Option.some Jvm.ClassFile.FieldType.int)) { frames := 1, cells := 0, slots := 0, locals := 22 } (gPc n0 D cA [gA n0 0, gV d, gJ g] M sz) (gQi n0 D cA sz (fun z M1 => ((¬(1 ≤ g ∧ g ≤ 8) → z = -2) ∧ (1 ≤ g → g ≤ 8 → z = g)) ∧ ∀ a : Int, a ≠ 1 → a ≠ 8 → M1 a = M a)) 0 0 (fun q => n0 ≤ q) := by
  refine gMet_of [gA n0 0, gV d, gJ g] (by decide) (Nat.le_of_ble_eq_true rfl) ?_
  intro p e s m args below meth cd X hr hm
  have X : gCx p s m args meth cd n0 D cA "ParishUnion" cX11_feed 5 := X
  show G p l e ({ frames := 1, cells := 0, slots := 0, locals := 22 } : Room) s m args below meth cd n0 D cA 5 (MQ below (gQi n0 D cA sz (fun z M1 => ((¬(1 ≤ g ∧ g ≤ 8) → z = -2) ∧ (1 ≤ g → g ≤ 8 → z = g)) ∧ ∀ a : Int, a ≠ 1 → a ≠ 8 → M1 a = M a)) args s 0 0 (fun q => n0 ≤ q)) 0 0 M sz 0 [(0, gA n0 0), (1, gV d), (3, gJ g)] []
  refine g_iload_n (n := 1) X 2 dX11_feed_0 rfl rfl rfl ?_
  refine g_iconst (n := 2) X dX11_feed_1 rfl ?_
  refine g_bipush (n := 4) X dX11_feed_2 (by decide +kernel) rfl ?_
  refine g_callSi (n := 7) (As := [gJ g, gJ 1, gJ 8]) (rest := []) (cs1 := 0) (ss1 := 0) X (c_X11_within g 1 8 (by omega) (by omega) (by omega) (by omega)) okX11_within kw_3_29 kw_3_30 ⟨rfl, rfl⟩ ⟨Nat.le_of_ble_eq_true rfl, Nat.le_of_ble_eq_true rfl⟩ rfl rfl (Nat.le_of_ble_eq_true rfl) ⟨Nat.le_of_ble_eq_true rfl, Nat.le_of_ble_eq_true rfl⟩ rfl rfl dX11_feed_4 rfl (fun z1 M2 P3 => ?_)
  obtain ⟨rfl, P3⟩ := P3
  refine g_if_ne (n := 10) (tgt := 13) X dX11_feed_7 (by decide) (by omega) rfl (fun c4 => ?_) (fun c4 => ?_)
  · refine g_aload_n (n := 14) X 0 dX11_feed_13 rfl rfl rfl ?_
    refine gg_11_0 (n := 17) (z := 1) X (by omega) (by omega) lay_0 kw_2_231 dX11_feed_14 rfl f_0_0 (by omega) ?_
    refine gg_9_14 (n := 20) (z := 0) X (by omega) (by omega) lay_1 kw_2_137 dX11_feed_17 rfl f_1_14 ?_
    refine g_iload_n (n := 21) X 2 dX11_feed_20 rfl rfl rfl ?_
    refine g_iadd (n := 22) (z := 0 + g) X dX11_feed_21 rfl rfl ?_
    refine g_sipush (n := 25) X dX11_feed_22 (by decide +kernel) rfl ?_
    refine g_icmp_le (n := 28) (tgt := 31) X dX11_feed_25 (by decide) (by omega) (by omega) rfl (fun c5 => ?_) (fun c5 => ?_)
    · refine g_iload_n (n := 32) X 2 dX11_feed_31 rfl rfl rfl ?_
      refine g_iconst (n := 33) X dX11_feed_32 rfl ?_
      refine g_isub (n := 34) (z := g - 1) X dX11_feed_33 rfl rfl ?_
      refine g_istore (n := 36) (L' := [(4, gJ (g - 1)), (0, gA n0 0), (1, gV d), (3, gJ g)]) X dX11_feed_34 (by decide) rfl rfl ?_
      have loop6 : ∀ (N8 : Nat) (k : Int) (M10 : gM), (∀ a : Int, a ≠ 1 → a ≠ 8 → M10 a = M a) → M10 1 14 = g - 1 - k → M10 1 4 = 9 → (-1 ≤ k ∧ k ≤ g - 1) → (k + 1).toNat < N8 → G p l e ({ frames := 1, cells := 0, slots := 0, locals := 22 } : Room) s m args below meth cd n0 D cA 5 (MQ below (gQi n0 D cA sz (fun z M1 => ((¬(1 ≤ g ∧ g ≤ 8) → z = -2) ∧ (1 ≤ g → g ≤ 8 → z = g)) ∧ ∀ a : Int, a ≠ 1 → a ≠ 8 → M1 a = M a)) args s 0 0 (fun q => n0 ≤ q)) 0 0 M10 sz 36 [(0, gA n0 0), (1, gV d), (3, gJ g), (4, gJ k)] [] := by
        intro N8; induction N8 with
        | zero => intro k M10 F11 g12 g13 ik hm9; exfalso; omega
        | succ N8 ih7 =>
          intro k M10 F11 g12 g13 ik hm9
          refine g_iload (n := 38) X 3 dX11_feed_36 rfl rfl ?_
          refine g_if_lt (n := 41) (tgt := 84) X dX11_feed_38 (by decide) (by omega) rfl (fun c14 => ?_) (fun c14 => ?_)
          · refine g_aload_n (n := 85) X 0 dX11_feed_84 rfl rfl rfl ?_
            refine gg_11_0 (n := 88) (z := 1) X (by omega) (by omega) lay_0 kw_2_231 dX11_feed_85 rfl ((congrFun (F11 0 (by omega) (by omega)) _).trans f_0_0) (by omega) ?_
            refine gg_9_14 (n := 91) (z := g - 1 - k) X (by omega) (by omega) lay_1 kw_2_137 dX11_feed_88 rfl g12 ?_
            exact g_ireturn X hr dX11_feed_91 (by exact ⟨by omega, fun a h0 h1 => ((F11 a (by omega) (by omega)).trans rfl)⟩)
          · refine g_aload_n (n := 42) X 0 dX11_feed_41 rfl rfl rfl ?_
            refine gg_11_0 (n := 45) (z := 1) X (by omega) (by omega) lay_0 kw_2_231 dX11_feed_42 rfl ((congrFun (F11 0 (by omega) (by omega)) _).trans f_0_0) (by omega) ?_
            refine gg_9_4 (n := 48) (z := 8) X (by omega) (by omega) lay_1 kw_2_115 dX11_feed_45 rfl g13 (by omega) ?_
            refine g_aload_n (n := 49) X 0 dX11_feed_48 rfl rfl rfl ?_
            refine gg_11_0 (n := 52) (z := 1) X (by omega) (by omega) lay_0 kw_2_231 dX11_feed_49 rfl ((congrFun (F11 0 (by omega) (by omega)) _).trans f_0_0) (by omega) ?_
            refine gg_9_14 (n := 55) (z := g - 1 - k) X (by omega) (by omega) lay_1 kw_2_137 dX11_feed_52 rfl g12 ?_
            refine g_lload_n (n := 56) X 1 dX11_feed_55 rfl rfl rfl ?_
            refine g_bipush (n := 58) X dX11_feed_56 (by decide +kernel) rfl ?_
            refine g_iload (n := 60) X 3 dX11_feed_58 rfl rfl ?_
            refine g_imul (n := 61) (z := 8 * k) X dX11_feed_60 rfl rfl ?_
            refine g_lushrA (n := 62) X dX11_feed_61 rfl (fun q15 rq15 xq15 => ?_)
            refine g_l2iA (n := 63) X dX11_feed_62 rfl (fun q16 rq16 xq16 => ?_)
            refine g_i2bA (n := 64) X dX11_feed_63 rfl (fun q17 rq17 xq17 => ?_)
            refine g_bast (n := 65) X (by omega) (by omega) lay_8 (by omega) (by omega) (by omega) (by rw [← xq17, pk_vb]) dX11_feed_64 rfl ?_
            refine G.nm (fun M18 e19 => ?_)
            refine g_aload_n (n := 66) X 0 dX11_feed_65 rfl rfl rfl ?_
            refine gg_11_0 (n := 69) (z := 1) X (by omega) (by omega) lay_0 kw_2_231 dX11_feed_66 rfl ((congrFun (congrFun e19 _) _).trans ((gset_ne (by omega)).trans ((congrFun (F11 0 (by omega) (by omega)) _).trans f_0_0))) (by omega) ?_
            refine g_dup (n := 70) X dX11_feed_69 rfl rfl ?_
            refine gg_9_14 (n := 73) (z := g - 1 - k) X (by omega) (by omega) lay_1 kw_2_137 dX11_feed_70 rfl ((congrFun (congrFun e19 _) _).trans ((gset_ne (by omega)).trans g12)) ?_
            refine g_iconst (n := 74) X dX11_feed_73 rfl ?_
            refine g_iadd (n := 75) (z := (g - 1 - k) + 1) X dX11_feed_74 rfl rfl ?_
            refine gp_9_14 (n := 78) X (by omega) (by omega) lay_1 kw_2_137 dX11_feed_75 rfl ?_
            refine G.nm (fun M20 e21 => ?_)
            refine g_iinc (n := 81) (w := k + (-1)) (L' := [(4, gJ (k + (-1))), (0, gA n0 0), (1, gV d), (3, gJ g)]) X 3 dX11_feed_78 rfl rfl (by decide) rfl rfl ?_
            refine g_goto (tgt := 36) X dX11_feed_81 (by decide) ?_
            refine G.sub (L' := [(0, gA n0 0), (1, gV d), (3, gJ g), (4, gJ (k + (-1)))]) [1, 2, 3, 0] rfl ?_
            exact ih7 (k + (-1)) M20 (fun a h0 h1 => ((congrFun e21 a).trans ((gset_off a (by omega)).trans ((congrFun e19 a).trans ((gset_off a (by omega)).trans ((F11 a (by omega) (by omega)).trans rfl)))))) (((congrFun (congrFun e21 _) _).trans (gset_eq _ _ _ _)).trans (by omega)) (((congrFun (congrFun e21 _) _).trans ((gset_ne (by omega)).trans ((congrFun (congrFun e19 _) _).trans ((gset_ne (by omega)).trans g13)))).trans (by omega)) (by omega) (by omega)
      refine G.sub (L' := [(0, gA n0 0), (1, gV d), (3, gJ g), (4, gJ (g - 1))]) [1, 2, 3, 0] rfl ?_
      exact loop6 _ (g - 1) M (fun a _ _ => rfl) (f_1_14.trans (by omega)) (f_1_4.trans (by omega)) (by omega) (Nat.lt_succ_self _)
    · refine g_bipush (n := 30) X dX11_feed_28 (by decide +kernel) rfl ?_
      exact g_ireturn X hr dX11_feed_30 (by exact ⟨by omega, fun a h0 h1 => rfl⟩)
  · refine g_bipush (n := 12) X dX11_feed_10 (by decide +kernel) rfl ?_
    exact g_ireturn X hr dX11_feed_12 (by exact ⟨by omega, fun a h0 h1 => rfl⟩)
theorem dX2_setRow_0 : decode cX2_setRow 0 = .ok (.lload_n 2, 1) := by decide +kernel
theorem dX2_setRow_1 : decode cX2_setRow 1 = .ok (.lstore 5, 2) := by decide +kernel
theorem dX2_setRow_3 : decode cX2_setRow 3 = .ok (.iload 4, 2) := by decide +kernel
theorem dX2_setRow_5 : decode cX2_setRow 5 = .ok (.iconst 1, 1) := by decide +kernel
theorem dX2_setRow_6 : decode cX2_setRow 6 = .ok (.isub, 1) := by decide +kernel
theorem dX2_setRow_7 : decode cX2_setRow 7 = .ok (.istore 7, 2) := by decide +kernel
theorem dX2_setRow_9 : decode cX2_setRow 9 = .ok (.iload 7, 2) := by decide +kernel
theorem dX2_setRow_11 : decode cX2_setRow 11 = .ok (.ifCond .lt 36, 3) := by decide +kernel
theorem dX2_setRow_47 : decode cX2_setRow 47 = .ok (.aload_n 0, 1) := by decide +kernel
theorem dX2_setRow_48 : decode cX2_setRow 48 = .ok (.getfield 18, 3) := by decide +kernel
theorem kw_1_101 : (Jvm.Cond.fieldLink "ParishUnion$House" (18 : Nat) "ParishUnion$House" "rowSize" "[I") ∈ gT := gT_of (tb_1 _ (List.mem_of_getElem? (i := 101) rfl)) rfl
theorem dX2_setRow_51 : decode cX2_setRow 51 = .ok (.iload_n 1, 1) := by decide +kernel
theorem dX2_setRow_52 : decode cX2_setRow 52 = .ok (.iload 4, 2) := by decide +kernel
theorem dX2_setRow_54 : decode cX2_setRow 54 = .ok (.iastore, 1) := by decide +kernel
theorem dX2_setRow_55 : decode cX2_setRow 55 = .ok (.return_, 1) := by decide +kernel
theorem dX2_setRow_14 : decode cX2_setRow 14 = .ok (.aload_n 0, 1) := by decide +kernel
theorem dX2_setRow_15 : decode cX2_setRow 15 = .ok (.getfield 21, 3) := by decide +kernel
theorem kw_1_103 : (Jvm.Cond.fieldLink "ParishUnion$House" (21 : Nat) "ParishUnion$House" "rowFrost" "[I") ∈ gT := gT_of (tb_1 _ (List.mem_of_getElem? (i := 103) rfl)) rfl
theorem dX2_setRow_18 : decode cX2_setRow 18 = .ok (.iload_n 1, 1) := by decide +kernel
theorem dX2_setRow_19 : decode cX2_setRow 19 = .ok (.bipush 10, 2) := by decide +kernel
theorem dX2_setRow_21 : decode cX2_setRow 21 = .ok (.imul, 1) := by decide +kernel
theorem dX2_setRow_22 : decode cX2_setRow 22 = .ok (.iload 7, 2) := by decide +kernel
theorem dX2_setRow_24 : decode cX2_setRow 24 = .ok (.iadd, 1) := by decide +kernel
theorem dX2_setRow_25 : decode cX2_setRow 25 = .ok (.lload 5, 2) := by decide +kernel
theorem dX2_setRow_27 : decode cX2_setRow 27 = .ok (.ldc2_w 55, 3) := by decide +kernel
theorem kw_5_144 : (Jvm.Cond.constantLong "ParishUnion$House" (55 : Nat) (10 : Int64)) ∈ gT := gT_of (tb_5 _ (List.mem_of_getElem? (i := 144) rfl)) rfl
theorem dX2_setRow_30 : decode cX2_setRow 30 = .ok (.lrem, 1) := by decide +kernel
theorem dX2_setRow_31 : decode cX2_setRow 31 = .ok (.l2i, 1) := by decide +kernel
theorem dX2_setRow_32 : decode cX2_setRow 32 = .ok (.iastore, 1) := by decide +kernel
theorem dX2_setRow_33 : decode cX2_setRow 33 = .ok (.lload 5, 2) := by decide +kernel
theorem dX2_setRow_35 : decode cX2_setRow 35 = .ok (.ldc2_w 55, 3) := by decide +kernel
theorem dX2_setRow_38 : decode cX2_setRow 38 = .ok (.ldiv, 1) := by decide +kernel
theorem dX2_setRow_39 : decode cX2_setRow 39 = .ok (.lstore 5, 2) := by decide +kernel
theorem dX2_setRow_41 : decode cX2_setRow 41 = .ok (.iinc 7 (-1), 3) := by decide +kernel
theorem dX2_setRow_44 : decode cX2_setRow 44 = .ok (.goto (-35), 3) := by decide +kernel
set_option maxRecDepth 100000 in
set_option maxHeartbeats 4000000 in
theorem c_X2_setRow {l : Launch} {n0 : Nat} {D : va_G} {cA : Nat → ClassId} {M : gM} (a d g : Int) (r_a : -2147483648 ≤ a ∧ a ≤ 2147483647) (r_d : -9223372036854775808 ≤ d ∧ d ≤ 9223372036854775807) (r_g : -2147483648 ≤ g ∧ g ≤ 2147483647) {sz : Nat} (hsz : 206 ≤ sz) (f_15_3 : M 15 3 = 20) (f_15_2 : M 15 2 = 19) (hab : 0 ≤ a ∧ a ≤ 2 ∧ 1 ≤ g ∧ g ≤ 10) : Met l yX2_setRow (gWsOf yX2_setRow cX2_setRow 8 (Option.none : Option Jvm.ClassFile.FieldType)) { frames := 0, cells := 0, slots := 0, locals := 0 } (gPc n0 D cA [gA n0 15, gJ a, gV d, gJ g] M sz) (gQv n0 D cA sz (fun M1 => ∀ a : Int, a ≠ 18 → a ≠ 19 → M1 a = M a)) 0 0 (fun q => n0 ≤ q) := by
  refine gMet_of [gA n0 15, gJ a, gV d, gJ g] (by decide) (Nat.le_of_ble_eq_true rfl) ?_
  intro p e s m args below meth cd X hr hm
  have X : gCx p s m args meth cd n0 D cA "ParishUnion$House" cX2_setRow 8 := X
  show G p l e ({ frames := 0, cells := 0, slots := 0, locals := 0 } : Room) s m args below meth cd n0 D cA 8 (MQ below (gQv n0 D cA sz (fun M1 => ∀ a : Int, a ≠ 18 → a ≠ 19 → M1 a = M a)) args s 0 0 (fun q => n0 ≤ q)) 0 0 M sz 0 [(0, gA n0 15), (1, gJ a), (2, gV d), (4, gJ g)] []
  refine g_lload_n (n := 1) X 2 dX2_setRow_0 rfl rfl rfl ?_
  refine g_lstore (n := 3) (L' := [(5, gV d), (0, gA n0 15), (1, gJ a), (2, gV d), (4, gJ g)]) X dX2_setRow_1 (by decide) rfl rfl ?_
  refine g_iload (n := 5) X 4 dX2_setRow_3 rfl rfl ?_
  refine g_iconst (n := 6) X dX2_setRow_5 rfl ?_
  refine g_isub (n := 7) (z := g - 1) X dX2_setRow_6 rfl rfl ?_
  refine g_istore (n := 9) (L' := [(7, gJ (g - 1)), (5, gV d), (0, gA n0 15), (1, gJ a), (2, gV d), (4, gJ g)]) X dX2_setRow_7 (by decide) rfl rfl ?_
  have loop1 : ∀ (N3 : Nat) (lf k : Int) (M5 : gM), (∀ a : Int, a ≠ 19 → M5 a = M a) → (-1 ≤ k ∧ k ≤ 9) → (k + 1).toNat < N3 → G p l e ({ frames := 0, cells := 0, slots := 0, locals := 0 } : Room) s m args below meth cd n0 D cA 8 (MQ below (gQv n0 D cA sz (fun M1 => ∀ a : Int, a ≠ 18 → a ≠ 19 → M1 a = M a)) args s 0 0 (fun q => n0 ≤ q)) 0 0 M5 sz 9 [(0, gA n0 15), (1, gJ a), (2, gV d), (4, gJ g), (5, gV lf), (7, gJ k)] [] := by
    intro N3; induction N3 with
    | zero => intro lf k M5 F6 ik hm4; exfalso; omega
    | succ N3 ih2 =>
      intro lf k M5 F6 ik hm4
      refine g_iload (n := 11) X 5 dX2_setRow_9 rfl rfl ?_
      refine g_if_lt (n := 14) (tgt := 47) X dX2_setRow_11 (by decide) (by omega) rfl (fun c7 => ?_) (fun c7 => ?_)
      · refine g_aload_n (n := 48) X 0 dX2_setRow_47 rfl rfl rfl ?_
        refine gg_2_2 (n := 51) (z := 18) X (by omega) (by omega) lay_15 kw_1_101 dX2_setRow_48 rfl ((congrFun (F6 15 (by omega)) _).trans f_15_2) (by omega) ?_
        refine g_iload_n (n := 52) X 1 dX2_setRow_51 rfl rfl rfl ?_
        refine g_iload (n := 54) X 3 dX2_setRow_52 rfl rfl ?_
        refine g_iast (n := 55) X (by omega) (by omega) lay_18 (by omega) (by omega) (by omega) dX2_setRow_54 rfl ?_
        refine G.nm (fun M8 e9 => ?_)
        exact g_return X hr dX2_setRow_55 (by exact (fun a h0 h1 => ((congrFun e9 a).trans ((gset_off a (by omega)).trans ((F6 a (by omega)).trans rfl)))))
      · refine g_aload_n (n := 15) X 0 dX2_setRow_14 rfl rfl rfl ?_
        refine gg_2_3 (n := 18) (z := 19) X (by omega) (by omega) lay_15 kw_1_103 dX2_setRow_15 rfl ((congrFun (F6 15 (by omega)) _).trans f_15_3) (by omega) ?_
        refine g_iload_n (n := 19) X 1 dX2_setRow_18 rfl rfl rfl ?_
        refine g_bipush (n := 21) X dX2_setRow_19 (by decide +kernel) rfl ?_
        refine g_imul (n := 22) (z := a * 10) X dX2_setRow_21 rfl rfl ?_
        refine g_iload (n := 24) X 5 dX2_setRow_22 rfl rfl ?_
        refine g_iadd (n := 25) (z := (a * 10) + k) X dX2_setRow_24 rfl rfl ?_
        refine g_lload (n := 27) X 4 dX2_setRow_25 rfl rfl ?_
        refine g_ldc2 (n := 30) (z := 10) X dX2_setRow_27 kw_5_144 (by decide +kernel) rfl ?_
        refine g_lremA (n := 31) X dX2_setRow_30 (by decide +kernel) rfl (fun q10 rq10 xq10 => ?_)
        refine g_l2iA (n := 32) X dX2_setRow_31 rfl (fun q11 rq11 xq11 => ?_)
        refine g_iast (n := 33) X (by omega) (by omega) lay_19 (by omega) (by omega) (by omega) dX2_setRow_32 rfl ?_
        refine G.nm (fun M12 e13 => ?_)
        refine g_lload (n := 35) X 4 dX2_setRow_33 rfl rfl ?_
        refine g_ldc2 (n := 38) (z := 10) X dX2_setRow_35 kw_5_144 (by decide +kernel) rfl ?_
        refine g_ldivA (n := 39) X dX2_setRow_38 (by decide +kernel) rfl (fun q14 rq14 xq14 => ?_)
        refine g_lstore (n := 41) (L' := [(5, gV q14), (0, gA n0 15), (1, gJ a), (2, gV d), (4, gJ g), (7, gJ k)]) X dX2_setRow_39 (by decide) rfl rfl ?_
        refine g_iinc (n := 44) (w := k + (-1)) (L' := [(7, gJ (k + (-1))), (5, gV q14), (0, gA n0 15), (1, gJ a), (2, gV d), (4, gJ g)]) X 5 dX2_setRow_41 rfl rfl (by decide) rfl rfl ?_
        refine g_goto (tgt := 9) X dX2_setRow_44 (by decide) ?_
        refine G.sub (L' := [(0, gA n0 15), (1, gJ a), (2, gV d), (4, gJ g), (5, gV q14), (7, gJ (k + (-1)))]) [2, 3, 4, 5, 1, 0] rfl ?_
        exact ih2 q14 (k + (-1)) M12 (fun a h0 => ((congrFun e13 a).trans ((gset_off a (by omega)).trans ((F6 a (by omega)).trans rfl)))) (by omega) (by omega)
  refine G.sub (L' := [(0, gA n0 15), (1, gJ a), (2, gV d), (4, gJ g), (5, gV d), (7, gJ (g - 1))]) [2, 3, 4, 5, 1, 0] rfl ?_
  exact loop1 _ d (g - 1) M (fun a _ => rfl) (by omega) (Nat.lt_succ_self _)
theorem dX11_frosts_0 : decode cX11_frosts 0 = .ok (.iload_n 1, 1) := by decide +kernel
theorem dX11_frosts_1 : decode cX11_frosts 1 = .ok (.iconst 0, 1) := by decide +kernel
theorem dX11_frosts_2 : decode cX11_frosts 2 = .ok (.iconst 2, 1) := by decide +kernel
theorem dX11_frosts_3 : decode cX11_frosts 3 = .ok (.invokestatic 62, 3) := by decide +kernel
theorem dX11_frosts_6 : decode cX11_frosts 6 = .ok (.ifCond .ne 5, 3) := by decide +kernel
theorem dX11_frosts_11 : decode cX11_frosts 11 = .ok (.iload 4, 2) := by decide +kernel
theorem dX11_frosts_13 : decode cX11_frosts 13 = .ok (.iconst 1, 1) := by decide +kernel
theorem dX11_frosts_14 : decode cX11_frosts 14 = .ok (.bipush 10, 2) := by decide +kernel
theorem dX11_frosts_16 : decode cX11_frosts 16 = .ok (.invokestatic 62, 3) := by decide +kernel
theorem dX11_frosts_19 : decode cX11_frosts 19 = .ok (.ifCond .ne 6, 3) := by decide +kernel
theorem dX11_frosts_25 : decode cX11_frosts 25 = .ok (.lconst 1, 1) := by decide +kernel
theorem dX11_frosts_26 : decode cX11_frosts 26 = .ok (.lstore 5, 2) := by decide +kernel
theorem dX11_frosts_28 : decode cX11_frosts 28 = .ok (.iconst 0, 1) := by decide +kernel
theorem dX11_frosts_29 : decode cX11_frosts 29 = .ok (.istore 7, 2) := by decide +kernel
theorem dX11_frosts_31 : decode cX11_frosts 31 = .ok (.iload 7, 2) := by decide +kernel
theorem dX11_frosts_33 : decode cX11_frosts 33 = .ok (.iload 4, 2) := by decide +kernel
theorem dX11_frosts_35 : decode cX11_frosts 35 = .ok (.if_icmp .ge 17, 3) := by decide +kernel
theorem dX11_frosts_52 : decode cX11_frosts 52 = .ok (.lload_n 2, 1) := by decide +kernel
theorem dX11_frosts_53 : decode cX11_frosts 53 = .ok (.lconst 0, 1) := by decide +kernel
theorem dX11_frosts_54 : decode cX11_frosts 54 = .ok (.lcmp, 1) := by decide +kernel
theorem dX11_frosts_55 : decode cX11_frosts 55 = .ok (.ifCond .lt 10, 3) := by decide +kernel
theorem dX11_frosts_65 : decode cX11_frosts 65 = .ok (.bipush (-2), 2) := by decide +kernel
theorem dX11_frosts_67 : decode cX11_frosts 67 = .ok (.ireturn, 1) := by decide +kernel
theorem dX11_frosts_58 : decode cX11_frosts 58 = .ok (.lload_n 2, 1) := by decide +kernel
theorem dX11_frosts_59 : decode cX11_frosts 59 = .ok (.lload 5, 2) := by decide +kernel
theorem dX11_frosts_61 : decode cX11_frosts 61 = .ok (.lcmp, 1) := by decide +kernel
theorem dX11_frosts_62 : decode cX11_frosts 62 = .ok (.ifCond .lt 6, 3) := by decide +kernel
theorem dX11_frosts_68 : decode cX11_frosts 68 = .ok (.aload_n 0, 1) := by decide +kernel
theorem dX11_frosts_69 : decode cX11_frosts 69 = .ok (.getfield 10, 3) := by decide +kernel
theorem dX11_frosts_72 : decode cX11_frosts 72 = .ok (.getfield 279, 3) := by decide +kernel
theorem dX11_frosts_75 : decode cX11_frosts 75 = .ok (.iload_n 1, 1) := by decide +kernel
theorem dX11_frosts_76 : decode cX11_frosts 76 = .ok (.lload_n 2, 1) := by decide +kernel
theorem dX11_frosts_77 : decode cX11_frosts 77 = .ok (.iload 4, 2) := by decide +kernel
theorem dX11_frosts_79 : decode cX11_frosts 79 = .ok (.invokevirtual 376, 3) := by decide +kernel
theorem kw_5_140 : (Jvm.Cond.methodLink "ParishUnion" (376 : Nat) ({ cls := "ParishUnion$House", name := "setRow", desc := "(IJI)V" } : Jvm.MethodName)) ∈ gT := gT_of (tb_5 _ (List.mem_of_getElem? (i := 140) rfl)) rfl
theorem kw_5_143 : (Jvm.Cond.code ({ cls := "ParishUnion$House", name := "setRow", desc := "(IJI)V" } : Jvm.MethodName) prog_4_method_6_code (8 : Nat) (Option.none : Option Jvm.ClassFile.FieldType)) ∈ gT := gT_of (tb_5 _ (List.mem_of_getElem? (i := 143) rfl)) rfl
theorem okX2_setRow : gQok yX2_setRow cX2_setRow 8 (Option.none : Option Jvm.ClassFile.FieldType) 3 := ⟨kw_5_143, kw_1_5, by decide +kernel, by decide +kernel, by decide +kernel⟩
theorem kw_5_141 : (Jvm.Cond.instanceMethod ({ cls := "ParishUnion$House", name := "setRow", desc := "(IJI)V" } : Jvm.MethodName)) ∈ gT := gT_of (tb_5 _ (List.mem_of_getElem? (i := 141) rfl)) rfl
theorem kw_5_142 : (Jvm.Cond.selects "ParishUnion$House" ({ cls := "ParishUnion$House", name := "setRow", desc := "(IJI)V" } : Jvm.MethodName) ({ cls := "ParishUnion$House", name := "setRow", desc := "(IJI)V" } : Jvm.MethodName)) ∈ gT := gT_of (tb_5 _ (List.mem_of_getElem? (i := 142) rfl)) rfl
theorem dX11_frosts_82 : decode cX11_frosts 82 = .ok (.iload 4, 2) := by decide +kernel
theorem dX11_frosts_84 : decode cX11_frosts 84 = .ok (.ireturn, 1) := by decide +kernel
theorem dX11_frosts_38 : decode cX11_frosts 38 = .ok (.lload 5, 2) := by decide +kernel
theorem dX11_frosts_40 : decode cX11_frosts 40 = .ok (.ldc2_w 374, 3) := by decide +kernel
theorem kw_5_139 : (Jvm.Cond.constantLong "ParishUnion" (374 : Nat) (10 : Int64)) ∈ gT := gT_of (tb_5 _ (List.mem_of_getElem? (i := 139) rfl)) rfl
theorem dX11_frosts_43 : decode cX11_frosts 43 = .ok (.lmul, 1) := by decide +kernel
theorem dX11_frosts_44 : decode cX11_frosts 44 = .ok (.lstore 5, 2) := by decide +kernel
theorem dX11_frosts_46 : decode cX11_frosts 46 = .ok (.iinc 7 1, 3) := by decide +kernel
theorem dX11_frosts_49 : decode cX11_frosts 49 = .ok (.goto (-18), 3) := by decide +kernel
theorem dX11_frosts_22 : decode cX11_frosts 22 = .ok (.bipush (-2), 2) := by decide +kernel
theorem dX11_frosts_24 : decode cX11_frosts 24 = .ok (.ireturn, 1) := by decide +kernel
theorem dX11_frosts_9 : decode cX11_frosts 9 = .ok (.iconst (-1), 1) := by decide +kernel
theorem dX11_frosts_10 : decode cX11_frosts 10 = .ok (.ireturn, 1) := by decide +kernel
set_option maxRecDepth 100000 in
set_option maxHeartbeats 4000000 in
theorem c_X11_frosts {l : Launch} {n0 : Nat} {D : va_G} {cA : Nat → ClassId} {M : gM} (a d g : Int) (r_a : -2147483648 ≤ a ∧ a ≤ 2147483647) (r_d : -9223372036854775808 ≤ d ∧ d ≤ 9223372036854775807) (r_g : -2147483648 ≤ g ∧ g ≤ 2147483647) {sz : Nat} (hsz : 206 ≤ sz) (f_0_0 : M 0 0 = 2) (f_1_6 : M 1 6 = 16) (f_15_3 : M 15 3 = 20) (f_15_2 : M 15 2 = 19) : Met l yX11_frosts (gWsOf yX11_frosts cX11_frosts 8 (Option.some Jvm.ClassFile.FieldType.int)) { frames := 1, cells := 0, slots := 0, locals := 27 } (gPc n0 D cA [gA n0 0, gJ a, gV d, gJ g] M sz) (gQi n0 D cA sz (fun z M1 => ((¬(0 ≤ a ∧ a ≤ 2) → z = -1) ∧ (0 ≤ a → a ≤ 2 → ¬(1 ≤ g ∧ g ≤ 10) → z = -2) ∧ (0 ≤ a → a ≤ 2 → 1 ≤ g → g ≤ 10 → ¬(0 ≤ d ∧ d < gP10 g) → z = -2) ∧ (0 ≤ a → a ≤ 2 → 1 ≤ g → g ≤ 10 → 0 ≤ d → d < gP10 g → z = g)) ∧ ∀ a : Int, a ≠ 18 → a ≠ 19 → M1 a = M a)) 0 0 (fun q => n0 ≤ q) := by
  refine gMet_of [gA n0 0, gJ a, gV d, gJ g] (by decide) (Nat.le_of_ble_eq_true rfl) ?_
  intro p e s m args below meth cd X hr hm
  have X : gCx p s m args meth cd n0 D cA "ParishUnion" cX11_frosts 8 := X
  show G p l e ({ frames := 1, cells := 0, slots := 0, locals := 27 } : Room) s m args below meth cd n0 D cA 8 (MQ below (gQi n0 D cA sz (fun z M1 => ((¬(0 ≤ a ∧ a ≤ 2) → z = -1) ∧ (0 ≤ a → a ≤ 2 → ¬(1 ≤ g ∧ g ≤ 10) → z = -2) ∧ (0 ≤ a → a ≤ 2 → 1 ≤ g → g ≤ 10 → ¬(0 ≤ d ∧ d < gP10 g) → z = -2) ∧ (0 ≤ a → a ≤ 2 → 1 ≤ g → g ≤ 10 → 0 ≤ d → d < gP10 g → z = g)) ∧ ∀ a : Int, a ≠ 18 → a ≠ 19 → M1 a = M a)) args s 0 0 (fun q => n0 ≤ q)) 0 0 M sz 0 [(0, gA n0 0), (1, gJ a), (2, gV d), (4, gJ g)] []
  refine g_iload_n (n := 1) X 1 dX11_frosts_0 rfl rfl rfl ?_
  refine g_iconst (n := 2) X dX11_frosts_1 rfl ?_
  refine g_iconst (n := 3) X dX11_frosts_2 rfl ?_
  refine g_callSi (n := 6) (As := [gJ a, gJ 0, gJ 2]) (rest := []) (cs1 := 0) (ss1 := 0) X (c_X11_within a 0 2 (by omega) (by omega) (by omega) (by omega)) okX11_within kw_3_29 kw_3_30 ⟨rfl, rfl⟩ ⟨Nat.le_of_ble_eq_true rfl, Nat.le_of_ble_eq_true rfl⟩ rfl rfl (Nat.le_of_ble_eq_true rfl) ⟨Nat.le_of_ble_eq_true rfl, Nat.le_of_ble_eq_true rfl⟩ rfl rfl dX11_frosts_3 rfl (fun z1 M2 P3 => ?_)
  obtain ⟨rfl, P3⟩ := P3
  refine g_if_ne (n := 9) (tgt := 11) X dX11_frosts_6 (by decide) (by omega) rfl (fun c4 => ?_) (fun c4 => ?_)
  · refine g_iload (n := 13) X 3 dX11_frosts_11 rfl rfl ?_
    refine g_iconst (n := 14) X dX11_frosts_13 rfl ?_
    refine g_bipush (n := 16) X dX11_frosts_14 (by decide +kernel) rfl ?_
    refine g_callSi (n := 19) (As := [gJ g, gJ 1, gJ 10]) (rest := []) (cs1 := 0) (ss1 := 0) X (c_X11_within g 1 10 (by omega) (by omega) (by omega) (by omega)) okX11_within kw_3_29 kw_3_30 ⟨rfl, rfl⟩ ⟨Nat.le_of_ble_eq_true rfl, Nat.le_of_ble_eq_true rfl⟩ rfl rfl (Nat.le_of_ble_eq_true rfl) ⟨Nat.le_of_ble_eq_true rfl, Nat.le_of_ble_eq_true rfl⟩ rfl rfl dX11_frosts_16 rfl (fun z5 M6 P7 => ?_)
    obtain ⟨rfl, P7⟩ := P7
    refine g_if_ne (n := 22) (tgt := 25) X dX11_frosts_19 (by decide) (by omega) rfl (fun c8 => ?_) (fun c8 => ?_)
    · refine g_lconst (n := 26) (z := 1) X dX11_frosts_25 (by decide +kernel) rfl ?_
      refine g_lstore (n := 28) (L' := [(5, gV 1), (0, gA n0 0), (1, gJ a), (2, gV d), (4, gJ g)]) X dX11_frosts_26 (by decide) rfl rfl ?_
      refine g_iconst (n := 29) X dX11_frosts_28 rfl ?_
      refine g_istore (n := 31) (L' := [(7, gJ 0), (5, gV 1), (0, gA n0 0), (1, gJ a), (2, gV d), (4, gJ g)]) X dX11_frosts_29 (by decide) rfl rfl ?_
      have loop9 : ∀ (N11 : Nat) (bd j : Int), (1 ≤ bd ∧ bd ≤ 10000000000) → (bd = gP10 j) → (0 ≤ j ∧ j ≤ g) → (g - j).toNat < N11 → G p l e ({ frames := 1, cells := 0, slots := 0, locals := 27 } : Room) s m args below meth cd n0 D cA 8 (MQ below (gQi n0 D cA sz (fun z M1 => ((¬(0 ≤ a ∧ a ≤ 2) → z = -1) ∧ (0 ≤ a → a ≤ 2 → ¬(1 ≤ g ∧ g ≤ 10) → z = -2) ∧ (0 ≤ a → a ≤ 2 → 1 ≤ g → g ≤ 10 → ¬(0 ≤ d ∧ d < gP10 g) → z = -2) ∧ (0 ≤ a → a ≤ 2 → 1 ≤ g → g ≤ 10 → 0 ≤ d → d < gP10 g → z = g)) ∧ ∀ a : Int, a ≠ 18 → a ≠ 19 → M1 a = M a)) args s 0 0 (fun q => n0 ≤ q)) 0 0 M sz 31 [(0, gA n0 0), (1, gJ a), (2, gV d), (4, gJ g), (5, gV bd), (7, gJ j)] [] := by
        intro N11; induction N11 with
        | zero => intro bd j  ib ie ij hm12; exfalso; omega
        | succ N11 ih10 =>
          intro bd j  ib ie ij hm12
          refine g_iload (n := 33) X 5 dX11_frosts_31 rfl rfl ?_
          refine g_iload (n := 35) X 3 dX11_frosts_33 rfl rfl ?_
          refine g_icmp_ge (n := 38) (tgt := 52) X dX11_frosts_35 (by decide) (by omega) (by omega) rfl (fun c14 => ?_) (fun c14 => ?_)
          · have hjg : j = g → gP10 j = gP10 g := fun h => by rw [h]
            refine g_lload_n (n := 53) X 2 dX11_frosts_52 rfl rfl rfl ?_
            refine g_lconst (n := 54) (z := 0) X dX11_frosts_53 (by decide +kernel) rfl ?_
            refine g_lcmp (n := 55) X dX11_frosts_54 (by omega) (by omega) rfl (fun q15 xq15 => ?_)
            refine g_if_lt (n := 58) (tgt := 65) X dX11_frosts_55 (by decide) (by omega) rfl (fun c16 => ?_) (fun c16 => ?_)
            · refine g_bipush (n := 67) X dX11_frosts_65 (by decide +kernel) rfl ?_
              exact g_ireturn X hr dX11_frosts_67 (by exact ⟨by omega, fun a h0 h1 => rfl⟩)
            · refine g_lload_n (n := 59) X 2 dX11_frosts_58 rfl rfl rfl ?_
              refine g_lload (n := 61) X 4 dX11_frosts_59 rfl rfl ?_
              refine g_lcmp (n := 62) X dX11_frosts_61 (by omega) (by omega) rfl (fun q17 xq17 => ?_)
              refine g_if_lt (n := 65) (tgt := 68) X dX11_frosts_62 (by decide) (by omega) rfl (fun c18 => ?_) (fun c18 => ?_)
              · refine g_aload_n (n := 69) X 0 dX11_frosts_68 rfl rfl rfl ?_
                refine gg_11_0 (n := 72) (z := 1) X (by omega) (by omega) lay_0 kw_2_231 dX11_frosts_69 rfl f_0_0 (by omega) ?_
                refine gg_9_6 (n := 75) (z := 15) X (by omega) (by omega) lay_1 kw_2_119 dX11_frosts_72 rfl f_1_6 (by omega) ?_
                refine g_iload_n (n := 76) X 1 dX11_frosts_75 rfl rfl rfl ?_
                refine g_lload_n (n := 77) X 2 dX11_frosts_76 rfl rfl rfl ?_
                refine g_iload (n := 79) X 3 dX11_frosts_77 rfl rfl ?_
                refine g_callVv (n := 82) (As := [gJ a, gV d, gJ g]) (rest := []) (cs1 := 0) (ss1 := 0) X (c_X2_setRow a d g (by omega) (by omega) (by omega) (by omega) f_15_3 f_15_2 (by omega)) okX2_setRow kw_5_140 ⟨kw_5_141, kw_5_142⟩ ⟨rfl, rfl⟩ ⟨Nat.le_of_ble_eq_true rfl, Nat.le_of_ble_eq_true rfl⟩ rfl (by omega) (by omega) lay_15 rfl rfl (Nat.le_of_ble_eq_true rfl) ⟨Nat.le_of_ble_eq_true rfl, Nat.le_of_ble_eq_true rfl⟩ rfl rfl dX11_frosts_79 rfl (fun M20 P21 => ?_)
                have F22 := P21
                refine g_iload (n := 84) X 3 dX11_frosts_82 rfl rfl ?_
                exact g_ireturn X hr dX11_frosts_84 (by exact ⟨by omega, fun a h0 h1 => ((F22 a (by omega) (by omega)).trans rfl)⟩)
              · refine g_bipush (n := 67) X dX11_frosts_65 (by decide +kernel) rfl ?_
                exact g_ireturn X hr dX11_frosts_67 (by exact ⟨by omega, fun a h0 h1 => rfl⟩)
          · refine g_lload (n := 40) X 4 dX11_frosts_38 rfl rfl ?_
            refine g_ldc2 (n := 43) (z := 10) X dX11_frosts_40 kw_5_139 (by decide +kernel) rfl ?_
            refine g_lmul (n := 44) (z := bd * 10) X dX11_frosts_43 rfl rfl ?_
            refine g_lstore (n := 46) (L' := [(5, gV (bd * 10)), (0, gA n0 0), (1, gJ a), (2, gV d), (4, gJ g), (7, gJ j)]) X dX11_frosts_44 (by decide) rfl rfl ?_
            refine g_iinc (n := 49) (w := j + 1) (L' := [(7, gJ (j + 1)), (5, gV (bd * 10)), (0, gA n0 0), (1, gJ a), (2, gV d), (4, gJ g)]) X 5 dX11_frosts_46 rfl rfl (by decide) rfl rfl ?_
            refine g_goto (tgt := 31) X dX11_frosts_49 (by decide) ?_
            refine G.sub (L' := [(0, gA n0 0), (1, gJ a), (2, gV d), (4, gJ g), (5, gV (bd * 10)), (7, gJ (j + 1))]) [2, 3, 4, 5, 1, 0] rfl ?_
            exact ih10 (bd * 10) (j + 1) (by have hb := gP10_s (i := j) (by omega) (by omega); have hc := gP10_b (i := j + 1); omega) (by rw [gP10_s (i := j) (by omega) (by omega), ie]) (by omega) (by omega)
      refine G.sub (L' := [(0, gA n0 0), (1, gJ a), (2, gV d), (4, gJ g), (5, gV 1), (7, gJ 0)]) [2, 3, 4, 5, 1, 0] rfl ?_
      exact loop9 _ 1 0 (by omega) (by decide) (by omega) (Nat.lt_succ_self _)
    · refine g_bipush (n := 24) X dX11_frosts_22 (by decide +kernel) rfl ?_
      exact g_ireturn X hr dX11_frosts_24 (by exact ⟨by omega, fun a h0 h1 => rfl⟩)
  · refine g_iconst (n := 10) X dX11_frosts_9 rfl ?_
    exact g_ireturn X hr dX11_frosts_10 (by exact ⟨by omega, fun a h0 h1 => rfl⟩)
