/-- byte i of a long, the lowest one 0 -/
def gBy (a i : Int) : Int := a / ((2 ^ (8 * i.toNat) : Nat) : Int) % 256
theorem gb_32 {x z : Int} (h : z = x.bmod 4294967296) : z % 256 = x % 256 := by
  rw [Int.bmod_def] at h
  split at h <;> omega
theorem gb_8 {x z : Int} (h : z = x.bmod 256) : z % 256 = x % 256 := by
  rw [Int.bmod_def] at h
  split at h <;> omega
theorem gb_64 {x z : Int} (h : z = x.bmod 18446744073709551616) : z % 18446744073709551616 = x % 18446744073709551616 := by
  rw [Int.bmod_def] at h
  split at h <;> omega
theorem gl_nat {a : Int} (h : -9223372036854775808 ≤ a ∧ a ≤ 9223372036854775807) : ((Int64.ofInt a).toBitVec.toNat : Int) = a % 18446744073709551616 := by
  have h1 : (Int64.ofInt a).toInt = a := gl_toInt h
  have h2 : (Int64.ofInt a).toInt = (Int64.ofInt a).toBitVec.toInt := rfl
  rw [h2, BitVec.toInt_eq_toNat_bmod] at h1
  have h3 := gb_64 (x := ((Int64.ofInt a).toBitVec.toNat : Int)) (z := a) h1.symm
  have h4 : (Int64.ofInt a).toBitVec.toNat < 18446744073709551616 := (Int64.ofInt a).toBitVec.isLt
  omega
theorem gBy_x {a i v u y : Int} (ha : -9223372036854775808 ≤ a ∧ a ≤ 9223372036854775807) (hi : 0 ≤ i ∧ i ≤ 7) (hv : -9223372036854775808 ≤ v ∧ v ≤ 9223372036854775807) (hu : -2147483648 ≤ u ∧ u ≤ 2147483647) (hy : -2147483648 ≤ y ∧ y ≤ 2147483647) (xv : ((Int64.ofInt a).toUInt64 >>> ((Int32.ofInt (8 * i)).toInt64.toUInt64 &&& Int64.toUInt64 63)).toInt64 = Int64.ofInt v) (xu : (Int64.ofInt v).toInt32 = Int32.ofInt u) (xy : (Int32.ofInt u).toInt8.toInt32 = Int32.ofInt y) : y % 256 = gBy a i := by
  have na := gl_nat ha
  have nv := gl_nat hv
  have hs : ((Int32.ofInt (8 * i)).toInt64.toUInt64 &&& Int64.toUInt64 63).toNat % 64 = 8 * i.toNat := by
    rcases (by omega : i = 0 ∨ i = 1 ∨ i = 2 ∨ i = 3 ∨ i = 4 ∨ i = 5 ∨ i = 6 ∨ i = 7) with rfl | rfl | rfl | rfl | rfl | rfl | rfl | rfl <;> decide +kernel
  have ev : (Int64.ofInt v).toBitVec.toNat = (Int64.ofInt a).toBitVec.toNat / 2 ^ (8 * i.toNat) := by
    rw [← xv]
    show ((Int64.ofInt a).toUInt64 >>> ((Int32.ofInt (8 * i)).toInt64.toUInt64 &&& Int64.toUInt64 63)).toNat = _
    rw [UInt64.toNat_shiftRight, hs, Nat.shiftRight_eq_div_pow]
    rfl
  have eu : u = v.bmod 4294967296 := by
    have h := congrArg Int32.toInt xu
    rw [Int64.toInt_toInt32, gl_toInt hv, gi_toInt hu] at h
    exact h.symm
  have ey : y = u.bmod 256 := by
    have h := congrArg Int32.toInt xy
    rw [Int8.toInt_toInt32, Int32.toInt_toInt8, gi_toInt hu, gi_toInt hy] at h
    exact h.symm
  have e1 := gb_8 ey
  have e2 := gb_32 eu
  unfold gBy
  rcases (by omega : i = 0 ∨ i = 1 ∨ i = 2 ∨ i = 3 ∨ i = 4 ∨ i = 5 ∨ i = 6 ∨ i = 7) with rfl | rfl | rfl | rfl | rfl | rfl | rfl | rfl
  · rw [show (2 ^ (8 * (0 : Int).toNat) : Nat) = 1 from by decide +kernel] at ev ⊢; omega
  · rw [show (2 ^ (8 * (1 : Int).toNat) : Nat) = 256 from by decide +kernel] at ev ⊢; omega
  · rw [show (2 ^ (8 * (2 : Int).toNat) : Nat) = 65536 from by decide +kernel] at ev ⊢; omega
  · rw [show (2 ^ (8 * (3 : Int).toNat) : Nat) = 16777216 from by decide +kernel] at ev ⊢; omega
  · rw [show (2 ^ (8 * (4 : Int).toNat) : Nat) = 4294967296 from by decide +kernel] at ev ⊢; omega
  · rw [show (2 ^ (8 * (5 : Int).toNat) : Nat) = 1099511627776 from by decide +kernel] at ev ⊢; omega
  · rw [show (2 ^ (8 * (6 : Int).toNat) : Nat) = 281474976710656 from by decide +kernel] at ev ⊢; omega
  · rw [show (2 ^ (8 * (7 : Int).toNat) : Nat) = 72057594037927936 from by decide +kernel] at ev ⊢; omega
theorem gBy_m {a i v u : Int} (ha : -9223372036854775808 ≤ a ∧ a ≤ 9223372036854775807) (hi : 0 ≤ i ∧ i ≤ 7) (hv : -9223372036854775808 ≤ v ∧ v ≤ 9223372036854775807) (hu : 0 ≤ u ∧ u ≤ 255) (xv : Int64.ofInt a >>> ((Int32.ofInt (8 * i)).toInt64 &&& 63) = Int64.ofInt v) (xu : Int64.ofInt v &&& Int64.ofInt 255 = Int64.ofInt u) : u = gBy a i := by
  have nv := gl_nat hv
  have nu := gl_nat (a := u) ⟨by omega, by omega⟩
  have hs : (((Int32.ofInt (8 * i)).toInt64 &&& 63).toBitVec.smod 64).toNat = 8 * i.toNat := by
    rcases (by omega : i = 0 ∨ i = 1 ∨ i = 2 ∨ i = 3 ∨ i = 4 ∨ i = 5 ∨ i = 6 ∨ i = 7) with rfl | rfl | rfl | rfl | rfl | rfl | rfl | rfl <;> decide +kernel
  have ev : v = a >>> (8 * i.toNat) := by
    have h : (Int64.ofInt v).toBitVec.toInt = ((Int64.ofInt a).toBitVec.sshiftRight' (((Int32.ofInt (8 * i)).toInt64 &&& 63).toBitVec.smod 64)).toInt := by rw [← xv]; rfl
    rw [BitVec.sshiftRight_eq', hs, BitVec.toInt_sshiftRight] at h
    have h1 : (Int64.ofInt v).toBitVec.toInt = v := gl_toInt hv
    have h2 : (Int64.ofInt a).toBitVec.toInt = a := gl_toInt ha
    rw [h1, h2] at h
    exact h
  rw [Int.shiftRight_eq_div_pow] at ev
  have eu : (Int64.ofInt u).toBitVec.toNat = (Int64.ofInt v).toBitVec.toNat % 256 := by
    rw [← xu]
    show ((Int64.ofInt v).toBitVec &&& (Int64.ofInt 255).toBitVec).toNat = _
    rw [BitVec.toNat_and, show (Int64.ofInt 255).toBitVec.toNat = 2 ^ 8 - 1 from by decide +kernel, Nat.and_two_pow_sub_one_eq_mod]
  unfold gBy
  rw [← ev]
  omega
abbrev R_e_X11_feed : Room := { frames := 1, cells := 0, slots := 0, locals := 22 }
set_option maxRecDepth 100000 in
set_option maxHeartbeats 4000000 in
theorem e_X11_feed {l : Launch} {n0 : Nat} {D : va_G} {cA : Nat → ClassId} {M : gM} (a : Int) (r_a : -9223372036854775808 ≤ a ∧ a ≤ 9223372036854775807) (b : Int) (r_b : -2147483648 ≤ b ∧ b ≤ 2147483647) {sz : Nat} (hsz : 206 ≤ sz) (I : gI sz M) (C : gC sz M)   : Met l yX11_feed (gWsOf yX11_feed cX11_feed 5 (Option.some Jvm.ClassFile.FieldType.int)) R_e_X11_feed (gPc n0 D cA [gA n0 0, gV a, gJ b] M sz) (gQi n0 D cA sz (fun z M1 => (-4 ≤ z ∧ z ≤ 150) ∧ gI sz M1 ∧ gC sz M1 ∧ gFr 8389120 M M1 ∧ ((¬ (1 ≤ b ∧ b ≤ 8) ∧ z = -2 ∧ M1 1 14 = M 1 14 ∧ (∀ k : Int, M1 8 k = M 8 k)) ∨ ((1 ≤ b ∧ b ≤ 8) ∧ 150 < M 1 14 + b ∧ z = -4 ∧ M1 1 14 = M 1 14 ∧ (∀ k : Int, M1 8 k = M 8 k)) ∨ (((1 ≤ b ∧ b ≤ 8) ∧ M 1 14 + b ≤ 150) ∧ z = M 1 14 + b ∧ M1 1 14 = M 1 14 + b ∧ (∀ k : Int, k < M 1 14 ∨ M 1 14 + b ≤ k → M1 8 k = M 8 k) ∧ (∀ j : Int, 0 ≤ j → j < b → M1 8 (M 1 14 + j) % 256 = gBy a (b - 1 - j)))))) 0 0 (fun q => n0 ≤ q) := by
  refine gMetI [gA n0 0, gV a, gJ b] (by decide) (Nat.le_of_ble_eq_true rfl) ⟨rfl, rfl⟩ ?_
  intro p e s m args below meth cd Q X hq
  have X : gCx p s m args meth cd n0 D cA "ParishUnion" cX11_feed 5 := X
  show G p l e R_e_X11_feed s m args below meth cd n0 D cA 5 Q 0 0 M sz 0 [(0, gA n0 0), (1, gV a), (3, gJ b)] []
  obtain ⟨v1, hv1, rv1⟩ := gRd I (by decide) (gsz hsz (by decide)) rc_1_14.1
  refine g_iload_n (n := 1) X 2 dX11_feed_0 rfl rfl rfl ?_
  refine g_iconst (n := 2) X dX11_feed_1 rfl ?_
  refine g_bipush (n := 4) X dX11_feed_2 (by decide +kernel) rfl ?_
  refine g_callSi (n := 7) (As := [gJ b, gJ 1, gJ 8]) (rest := []) (cs1 := 0) (ss1 := 0) X (s_X11_within b (by omega) 1 (by omega) 8 (by omega) hsz I C ) okX11_within kw_3_29 kw_3_30 ⟨rfl, rfl⟩ ⟨Nat.le_of_ble_eq_true rfl, Nat.le_of_ble_eq_true rfl⟩ rfl rfl (Nat.le_of_ble_eq_true rfl) ⟨Nat.le_of_ble_eq_true rfl, Nat.le_of_ble_eq_true rfl⟩ rfl rfl dX11_feed_4 rfl (fun v2 M3 P4 => ?_)
  obtain ⟨rfl, rv2, xv2⟩ := P4
  refine g_if_ne (n := 10) (tgt := 13) X dX11_feed_7 (by decide) (by omega) rfl (fun c5 => ?_) (fun c5 => ?_)
  · refine g_aload_n (n := 14) X 0 dX11_feed_13 rfl rfl rfl ?_
    refine gg_11_0 (n := 17) (z := 1) X (by decide) (gsz hsz (by decide)) lay_0 kw_2_231 dX11_feed_14 rfl (rf_0_0 I (gsz hsz (by decide))) (by decide) ?_
    refine gg_9_14 (n := 20) (z := v1) X (by decide) (gsz hsz (by decide)) lay_1 kw_2_137 dX11_feed_17 rfl hv1 ?_
    refine g_iload_n (n := 21) X 2 dX11_feed_20 rfl rfl rfl ?_
    refine g_iadd (n := 22) (z := v1 + b) X dX11_feed_21 rfl rfl ?_
    refine g_sipush (n := 25) X dX11_feed_22 (by decide +kernel) rfl ?_
    refine g_icmp_le (n := 28) (tgt := 31) X dX11_feed_25 (by decide) (by omega) (by omega) rfl (fun c6 => ?_) (fun c6 => ?_)
    · refine g_iload_n (n := 32) X 2 dX11_feed_31 rfl rfl rfl ?_
      refine g_iconst (n := 33) X dX11_feed_32 rfl ?_
      refine g_isub (n := 34) (z := b - 1) X dX11_feed_33 (by omega) rfl ?_
      refine g_istore (n := 36) (L' := [(4, gJ (b - 1)), (0, gA n0 0), (1, gV a), (3, gJ b)]) X dX11_feed_34 (by decide) rfl rfl ?_
      have j9 : ∀ (N19 : Nat) (v7 : Int) (M8 : gM) , (-1 ≤ v7 ∧ v7 ≤ 7) → gI sz M8 → gC sz M8 → gFr 8389120 M M8 → (M8 1 14 = v1 + (b - 1 - v7) ∧ (∀ k : Int, k < v1 ∨ v1 + (b - 1 - v7) ≤ k → M8 8 k = M 8 k) ∧ (∀ j : Int, 0 ≤ j → j < b - 1 - v7 → M8 8 (v1 + j) % 256 = gBy a (b - 1 - j))) → (v7 ≤ b - 1) → (v7 + 1).toNat < N19 → G p l e R_e_X11_feed s m args below meth cd n0 D cA 5 Q 0 0 M8 sz 36 [(0, gA n0 0), (1, gV a), (4, gJ v7)] [] := by
        intro N19; induction N19 with
        | zero => intro v7 M8 rv7 IM8 CM8 FM8 hI hB hm21; exfalso; omega
        | succ N19 ih20 =>
          intro v7 M8 rv7 IM8 CM8 FM8 hI hB hm21
          obtain ⟨v22, hv22, rv22⟩ := gRd IM8 (by decide) (gsz hsz (by decide)) rc_1_14.1
          have hsz4 : v22 = v1 + (b - 1 - v7) := hv22.symm.trans hI.1
          refine g_iload (n := 38) X 2 dX11_feed_36 rfl rfl ?_
          refine g_if_lt (n := 41) (tgt := 84) X dX11_feed_38 (by decide) (by omega) rfl (fun c23 => ?_) (fun c23 => ?_)
          · refine g_aload_n (n := 85) X 0 dX11_feed_84 rfl rfl rfl ?_
            refine gg_11_0 (n := 88) (z := 1) X (by decide) (gsz hsz (by decide)) lay_0 kw_2_231 dX11_feed_85 rfl (rf_0_0 IM8 (gsz hsz (by decide))) (by decide) ?_
            refine gg_9_14 (n := 91) (z := v22) X (by decide) (gsz hsz (by decide)) lay_1 kw_2_137 dX11_feed_88 rfl hv22 ?_
            exact hq _ _ _ _ dX11_feed_91 ⟨by omega, IM8, CM8, (gFr.c gFr.rf FM8 rfl), (by have zb : M 1 14 = v1 := hv1; have ze : M8 1 14 = v22 := hv22; rw [zb]; exact Or.inr (Or.inr ⟨by omega, by omega, by omega, fun k hk => hI.2.1 k (by omega), fun j h0 h1 => hI.2.2 j h0 (by omega)⟩))⟩
          · refine g_aload_n (n := 42) X 0 dX11_feed_41 rfl rfl rfl ?_
            refine gg_11_0 (n := 45) (z := 1) X (by decide) (gsz hsz (by decide)) lay_0 kw_2_231 dX11_feed_42 rfl (rf_0_0 IM8 (gsz hsz (by decide))) (by decide) ?_
            refine gg_9_4 (n := 48) (z := 8) X (by decide) (gsz hsz (by decide)) lay_1 kw_2_115 dX11_feed_45 rfl (rf_1_4 IM8 (gsz hsz (by decide))) (by decide) ?_
            refine g_aload_n (n := 49) X 0 dX11_feed_48 rfl rfl rfl ?_
            refine gg_11_0 (n := 52) (z := 1) X (by decide) (gsz hsz (by decide)) lay_0 kw_2_231 dX11_feed_49 rfl (rf_0_0 IM8 (gsz hsz (by decide))) (by decide) ?_
            refine gg_9_14 (n := 55) (z := v22) X (by decide) (gsz hsz (by decide)) lay_1 kw_2_137 dX11_feed_52 rfl hv22 ?_
            refine g_lload_n (n := 56) X 1 dX11_feed_55 rfl rfl rfl ?_
            refine g_bipush (n := 58) X dX11_feed_56 (by decide +kernel) rfl ?_
            refine g_iload (n := 60) X 2 dX11_feed_58 rfl rfl ?_
            refine g_imul (n := 61) (z := 8 * v7) X dX11_feed_60 rfl rfl ?_
            refine g_lushrA (n := 62) X dX11_feed_61 rfl (fun v24 rv24 xv24 => ?_)
            refine g_l2iA (n := 63) X dX11_feed_62 rfl (fun v25 rv25 xv25 => ?_)
            refine g_i2bA (n := 64) X dX11_feed_63 rfl (fun v26 rv26 xv26 => ?_)
            have bv26 := g_i2br rv26 xv26
            refine g_bast (n := 65) (z := v26) X (by decide) (gsz hsz (by decide)) lay_8 (by omega) (by omega) (by decide) (g_bn (by omega)) dX11_feed_64 rfl ?_
            refine G.nm (fun M27 e28 => ?_)
            have IM27 : gI sz M27 := gI.set IM8 (ra_8 v22).1 (by omega) e28
            have CM27 : gC sz M27 := gC.set CM8 (ra_8 v22).2.1 e28
            refine g_aload_n (n := 66) X 0 dX11_feed_65 rfl rfl rfl ?_
            refine gg_11_0 (n := 69) (z := 1) X (by decide) (gsz hsz (by decide)) lay_0 kw_2_231 dX11_feed_66 rfl (rf_0_0 IM27 (gsz hsz (by decide))) (by decide) ?_
            refine g_dup (n := 70) X dX11_feed_69 rfl rfl ?_
            refine gg_9_14 (n := 73) (z := v22) X (by decide) (gsz hsz (by decide)) lay_1 kw_2_137 dX11_feed_70 rfl ((congrFun (congrFun e28 _) _).trans ((gset_ne (by omega)).trans hv22)) ?_
            refine g_iconst (n := 74) X dX11_feed_73 rfl ?_
            refine g_iadd (n := 75) (z := v22 + 1) X dX11_feed_74 (by omega) rfl ?_
            refine gp_9_14 (n := 78) X (by decide) (gsz hsz (by decide)) lay_1 kw_2_137 dX11_feed_75 rfl ?_
            refine G.nm (fun M29 e30 => ?_)
            have IM29 : gI sz M29 := gI.set IM27 rc_1_14.1 (by omega) e30
            have CM29 : gC sz M29 := gC.set CM27 rc_1_14.2.1 e30
            refine g_iinc (n := 81) (w := v7 - 1) (L' := [(4, gJ (v7 - 1)), (0, gA n0 0), (1, gV a)]) X 2 dX11_feed_78 rfl rfl (by decide) rfl rfl ?_
            refine g_goto (tgt := 36) X dX11_feed_81 (by decide) ?_
            refine G.sub (L' := [(0, gA n0 0), (1, gV a), (4, gJ (v7 - 1))]) [1, 2, 0] rfl ?_
            exact ih20 (v7 - 1) M29 (by omega) IM29 CM29 (gFr.s (gFr.s (gFr.c gFr.rf FM8 rfl) e28 (ra_8 v22).2.2 rfl) e30 rc_1_14.2.2 rfl) (by have ze : M29 1 14 = v22 + 1 := ((congrFun (congrFun e30 _) _).trans (gset_eq _ _ _ _)); have zs : M8 1 14 = v22 := hv22; refine ⟨by omega, fun k hk => ((congrFun (congrFun e30 _) _).trans ((gset_ne (by omega)).trans ((congrFun (congrFun e28 _) _).trans ((gset_ne (by omega)).trans (hI.2.1 k (by omega)))))), fun j h0 h1 => ?_⟩; by_cases c : j = b - 1 - v7; (have g1 : M29 8 (v22) = v26 := ((congrFun (congrFun e30 _) _).trans ((gset_ne (by omega)).trans ((congrFun (congrFun e28 _) _).trans (gset_eq _ _ _ _)))); rw [show v1 + j = v22 by omega, g1, show b - 1 - j = v7 by omega]; exact (gBy_x r_a (by omega) rv24 rv25 rv26 xv24 xv25 xv26)); (have g2 : M29 8 (v1 + j) = M8 8 (v1 + j) := ((congrFun (congrFun e30 _) _).trans ((gset_ne (by omega)).trans ((congrFun (congrFun e28 _) _).trans ((gset_ne (by omega)).trans rfl)))); rw [g2]; exact hI.2.2 j h0 (by omega))) (by omega) (by omega)
      refine G.sub (L' := [(0, gA n0 0), (1, gV a), (4, gJ (b - 1))]) [1, 2, 0] rfl ?_
      exact j9 _ (b - 1) M (by omega) I C gFr.rf ⟨by have q1 := hv1; omega, fun k _ => rfl, fun j h0 h1 => by exfalso; omega⟩ (by omega) (Nat.lt_succ_self _)
    · refine g_bipush (n := 30) X dX11_feed_28 (by decide +kernel) rfl ?_
      exact hq _ _ _ _ dX11_feed_30 ⟨by omega, I, C, gFr.rf, (by have zb : M 1 14 = v1 := hv1; first | exact Or.inl ⟨by omega, by omega, rfl, fun k => rfl⟩ | exact Or.inr (Or.inl ⟨by omega, by omega, by omega, rfl, fun k => rfl⟩))⟩
  · refine g_bipush (n := 12) X dX11_feed_10 (by decide +kernel) rfl ?_
    exact hq _ _ _ _ dX11_feed_12 ⟨by omega, I, C, gFr.rf, (by have zb : M 1 14 = v1 := hv1; first | exact Or.inl ⟨by omega, by omega, rfl, fun k => rfl⟩ | exact Or.inr (Or.inl ⟨by omega, by omega, by omega, rfl, fun k => rfl⟩))⟩
abbrev R_e_X12_feed : Room := { frames := 1, cells := 0, slots := 0, locals := 22 }
set_option maxRecDepth 100000 in
set_option maxHeartbeats 4000000 in
theorem e_X12_feed {l : Launch} {n0 : Nat} {D : va_G} {cA : Nat → ClassId} {M : gM} (a : Int) (r_a : -9223372036854775808 ≤ a ∧ a ≤ 9223372036854775807) (b : Int) (r_b : -2147483648 ≤ b ∧ b ≤ 2147483647) {sz : Nat} (hsz : 206 ≤ sz) (I : gI sz M) (C : gC sz M)   : Met l yX12_feed (gWsOf yX12_feed cX12_feed 5 (Option.some Jvm.ClassFile.FieldType.int)) R_e_X12_feed (gPc n0 D cA [gA n0 190, gV a, gJ b] M sz) (gQi n0 D cA sz (fun z M1 => (-4 ≤ z ∧ z ≤ 150) ∧ gI sz M1 ∧ gC sz M1 ∧ gFr 144132780261900288 M M1 ∧ ((¬ (1 ≤ b ∧ b ≤ 8) ∧ z = -2 ∧ M1 191 10 = M 191 10 ∧ (∀ k : Int, 2620 ≤ k → k < 2770 → M1 191 k = M 191 k)) ∨ ((1 ≤ b ∧ b ≤ 8) ∧ 150 < M 191 10 + b ∧ z = -4 ∧ M1 191 10 = M 191 10 ∧ (∀ k : Int, 2620 ≤ k → k < 2770 → M1 191 k = M 191 k)) ∨ (((1 ≤ b ∧ b ≤ 8) ∧ M 191 10 + b ≤ 150) ∧ z = M 191 10 + b ∧ M1 191 10 = M 191 10 + b ∧ (∀ k : Int, 2620 ≤ k → k < 2770 → (k < M 191 10 + 2620 ∨ M 191 10 + b + 2620 ≤ k) → M1 191 k = M 191 k) ∧ (∀ j : Int, 0 ≤ j → j < b → M1 191 (M 191 10 + j + 2620) = gBy a (b - 1 - j)))))) 0 0 (fun q => n0 ≤ q) := by
  refine gMetI [gA n0 190, gV a, gJ b] (by decide) (Nat.le_of_ble_eq_true rfl) ⟨rfl, rfl⟩ ?_
  intro p e s m args below meth cd Q X hq
  have X : gCx p s m args meth cd n0 D cA "ParishUnionModel" cX12_feed 5 := X
  show G p l e R_e_X12_feed s m args below meth cd n0 D cA 5 Q 0 0 M sz 0 [(0, gA n0 190), (1, gV a), (3, gJ b)] []
  obtain ⟨v1, hv1, rv1⟩ := gRd I (by decide) (gsz hsz (by decide)) (rs_TAPED (k := 10) (by omega)).1
  refine g_iload_n (n := 1) X 2 dX12_feed_0 rfl rfl rfl ?_
  refine g_iconst (n := 2) X dX12_feed_1 rfl ?_
  refine g_bipush (n := 4) X dX12_feed_2 (by decide +kernel) rfl ?_
  refine g_callSi (n := 7) (As := [gJ b, gJ 1, gJ 8]) (rest := []) (cs1 := 0) (ss1 := 0) X (s_X12_in b (by omega) 1 (by omega) 8 (by omega) hsz I C ) okX12_in kw_6_106 kw_6_107 ⟨rfl, rfl⟩ ⟨Nat.le_of_ble_eq_true rfl, Nat.le_of_ble_eq_true rfl⟩ rfl rfl (Nat.le_of_ble_eq_true rfl) ⟨Nat.le_of_ble_eq_true rfl, Nat.le_of_ble_eq_true rfl⟩ rfl rfl dX12_feed_4 rfl (fun v2 M3 P4 => ?_)
  obtain ⟨rfl, rv2, xv2⟩ := P4
  refine g_if_ne (n := 10) (tgt := 13) X dX12_feed_7 (by decide) (by omega) rfl (fun c5 => ?_) (fun c5 => ?_)
  · refine g_aload_n (n := 14) X 0 dX12_feed_13 rfl rfl rfl ?_
    refine gg_12_1 (n := 17) (z := 191) X (by decide) (gsz hsz (by decide)) lay_190 kw_6_27 dX12_feed_14 rfl (rf_190_1 I (gsz hsz (by decide))) (by decide) ?_
    refine g_bipush (n := 19) X dX12_feed_17 (by decide +kernel) rfl ?_
    refine g_iald2 (n := 20) (v := v1) X (by decide) (gsz hsz (by decide)) lay_191 (by omega) (by omega) (by decide) dX12_feed_19 rfl hv1 ?_
    refine g_iload_n (n := 21) X 2 dX12_feed_20 rfl rfl rfl ?_
    refine g_iadd (n := 22) (z := v1 + b) X dX12_feed_21 rfl rfl ?_
    refine g_sipush (n := 25) X dX12_feed_22 (by decide +kernel) rfl ?_
    refine g_icmp_le (n := 28) (tgt := 31) X dX12_feed_25 (by decide) (by omega) (by omega) rfl (fun c6 => ?_) (fun c6 => ?_)
    · refine g_iload_n (n := 32) X 2 dX12_feed_31 rfl rfl rfl ?_
      refine g_iconst (n := 33) X dX12_feed_32 rfl ?_
      refine g_isub (n := 34) (z := b - 1) X dX12_feed_33 (by omega) rfl ?_
      refine g_istore (n := 36) (L' := [(4, gJ (b - 1)), (0, gA n0 190), (1, gV a), (3, gJ b)]) X dX12_feed_34 (by decide) rfl rfl ?_
      have j9 : ∀ (N18 : Nat) (v7 : Int) (M8 : gM) , (-1 ≤ v7 ∧ v7 ≤ 7) → gI sz M8 → gC sz M8 → gFr 144132780261900288 M M8 → (M8 191 10 = v1 + (b - 1 - v7) ∧ (∀ k : Int, 2620 ≤ k → k < 2770 → (k < v1 + 2620 ∨ v1 + (b - 1 - v7) + 2620 ≤ k) → M8 191 k = M 191 k) ∧ (∀ j : Int, 0 ≤ j → j < b - 1 - v7 → M8 191 (v1 + j + 2620) = gBy a (b - 1 - j))) → (v7 ≤ b - 1) → (v7 + 1).toNat < N18 → G p l e R_e_X12_feed s m args below meth cd n0 D cA 5 Q 0 0 M8 sz 36 [(0, gA n0 190), (1, gV a), (4, gJ v7)] [] := by
        intro N18; induction N18 with
        | zero => intro v7 M8 rv7 IM8 CM8 FM8 hI hB hm20; exfalso; omega
        | succ N18 ih19 =>
          intro v7 M8 rv7 IM8 CM8 FM8 hI hB hm20
          obtain ⟨v21, hv21, rv21⟩ := gRd IM8 (by decide) (gsz hsz (by decide)) (rs_TAPED (k := 10) (by omega)).1
          have hsz4 : v21 = v1 + (b - 1 - v7) := hv21.symm.trans hI.1
          refine g_iload (n := 38) X 2 dX12_feed_36 rfl rfl ?_
          refine g_if_lt (n := 41) (tgt := 86) X dX12_feed_38 (by decide) (by omega) rfl (fun c22 => ?_) (fun c22 => ?_)
          · refine g_aload_n (n := 87) X 0 dX12_feed_86 rfl rfl rfl ?_
            refine gg_12_1 (n := 90) (z := 191) X (by decide) (gsz hsz (by decide)) lay_190 kw_6_27 dX12_feed_87 rfl (rf_190_1 IM8 (gsz hsz (by decide))) (by decide) ?_
            refine g_bipush (n := 92) X dX12_feed_90 (by decide +kernel) rfl ?_
            refine g_iald2 (n := 93) (v := v21) X (by decide) (gsz hsz (by decide)) lay_191 (by omega) (by omega) (by decide) dX12_feed_92 rfl hv21 ?_
            exact hq _ _ _ _ dX12_feed_93 ⟨by omega, IM8, CM8, (gFr.c gFr.rf FM8 rfl), (by have zb : M 191 10 = v1 := hv1; have ze : M8 191 10 = v21 := hv21; rw [zb]; exact Or.inr (Or.inr ⟨by omega, by omega, by omega, fun k k0 k1 hk => hI.2.1 k k0 k1 (by omega), fun j h0 h1 => hI.2.2 j h0 (by omega)⟩))⟩
          · refine g_aload_n (n := 42) X 0 dX12_feed_41 rfl rfl rfl ?_
            refine gg_12_1 (n := 45) (z := 191) X (by decide) (gsz hsz (by decide)) lay_190 kw_6_27 dX12_feed_42 rfl (rf_190_1 IM8 (gsz hsz (by decide))) (by decide) ?_
            refine g_sipush (n := 48) X dX12_feed_45 (by decide +kernel) rfl ?_
            refine g_aload_n (n := 49) X 0 dX12_feed_48 rfl rfl rfl ?_
            refine gg_12_1 (n := 52) (z := 191) X (by decide) (gsz hsz (by decide)) lay_190 kw_6_27 dX12_feed_49 rfl (rf_190_1 IM8 (gsz hsz (by decide))) (by decide) ?_
            refine g_bipush (n := 54) X dX12_feed_52 (by decide +kernel) rfl ?_
            refine g_iald2 (n := 55) (v := v21) X (by decide) (gsz hsz (by decide)) lay_191 (by omega) (by omega) (by decide) dX12_feed_54 rfl hv21 ?_
            refine g_iadd (n := 56) (z := v21 + 2620) X dX12_feed_55 (by omega) rfl ?_
            refine g_lload_n (n := 57) X 1 dX12_feed_56 rfl rfl rfl ?_
            refine g_bipush (n := 59) X dX12_feed_57 (by decide +kernel) rfl ?_
            refine g_iload (n := 61) X 2 dX12_feed_59 rfl rfl ?_
            refine g_imul (n := 62) (z := 8 * v7) X dX12_feed_61 rfl rfl ?_
            refine g_lshrA (n := 63) X dX12_feed_62 rfl (fun v23 rv23 xv23 => ?_)
            refine g_ldc2 (n := 66) (z := 255) X dX12_feed_63 kw_6_231 (by decide +kernel) rfl ?_
            refine g_landC (n := 67) X dX12_feed_66 (by decide) rfl (fun v24 rv24 xv24 => ?_)
            refine g_l2iE (n := 68) (z := v24) X dX12_feed_67 (g_l2i (by omega)) rfl ?_
            refine g_iast (n := 69) X (by decide) (gsz hsz (by decide)) lay_191 (by omega) (by omega) (by decide) dX12_feed_68 rfl ?_
            refine G.nm (fun M25 e26 => ?_)
            have IM25 : gI sz M25 := gI.set IM8 (rs_TAPE (k := v21 + 2620) (by omega)).1 (by omega) e26
            have CM25 : gC sz M25 := gC.set CM8 (rs_TAPE (k := v21 + 2620) (by omega)).2.1 e26
            refine g_aload_n (n := 70) X 0 dX12_feed_69 rfl rfl rfl ?_
            refine gg_12_1 (n := 73) (z := 191) X (by decide) (gsz hsz (by decide)) lay_190 kw_6_27 dX12_feed_70 rfl (rf_190_1 IM25 (gsz hsz (by decide))) (by decide) ?_
            refine g_bipush (n := 75) X dX12_feed_73 (by decide +kernel) rfl ?_
            refine g_dup2 (n := 76) X dX12_feed_75 rfl rfl rfl ?_
            refine g_iald2 (n := 77) (v := v21) X (by decide) (gsz hsz (by decide)) lay_191 (by omega) (by omega) (by decide) dX12_feed_76 rfl ((congrFun (congrFun e26 _) _).trans ((gset_ne (by omega)).trans hv21)) ?_
            refine g_iconst (n := 78) X dX12_feed_77 rfl ?_
            refine g_iadd (n := 79) (z := v21 + 1) X dX12_feed_78 (by omega) rfl ?_
            refine g_iast (n := 80) X (by decide) (gsz hsz (by decide)) lay_191 (by omega) (by omega) (by decide) dX12_feed_79 rfl ?_
            refine G.nm (fun M27 e28 => ?_)
            have IM27 : gI sz M27 := gI.set IM25 (rs_TAPED (k := 10) (by omega)).1 (by omega) e28
            have CM27 : gC sz M27 := gC.set CM25 (rs_TAPED (k := 10) (by omega)).2.1 e28
            refine g_iinc (n := 83) (w := v7 - 1) (L' := [(4, gJ (v7 - 1)), (0, gA n0 190), (1, gV a)]) X 2 dX12_feed_80 rfl rfl (by decide) rfl rfl ?_
            refine g_goto (tgt := 36) X dX12_feed_83 (by decide) ?_
            refine G.sub (L' := [(0, gA n0 190), (1, gV a), (4, gJ (v7 - 1))]) [1, 2, 0] rfl ?_
            exact ih19 (v7 - 1) M27 (by omega) IM27 CM27 (gFr.s (gFr.s (gFr.c gFr.rf FM8 rfl) e26 (rs_TAPE (k := v21 + 2620) (by omega)).2.2 rfl) e28 (rs_TAPED (k := 10) (by omega)).2.2 rfl) (by have ze : M27 191 10 = v21 + 1 := ((congrFun (congrFun e28 _) _).trans (gset_eq _ _ _ _)); have zs : M8 191 10 = v21 := hv21; refine ⟨by omega, fun k k0 k1 hk => ((congrFun (congrFun e28 _) _).trans ((gset_ne (by omega)).trans ((congrFun (congrFun e26 _) _).trans ((gset_ne (by omega)).trans (hI.2.1 k k0 k1 (by omega)))))), fun j h0 h1 => ?_⟩; by_cases c : j = b - 1 - v7; (have g1 : M27 191 (v21 + 2620) = v24 := ((congrFun (congrFun e28 _) _).trans ((gset_ne (by omega)).trans ((congrFun (congrFun e26 _) _).trans (gset_eq _ _ _ _)))); rw [show v1 + j + 2620 = v21 + 2620 by omega, g1, show b - 1 - j = v7 by omega]; exact (gBy_m r_a (by omega) rv23 (by omega) xv23 xv24)); (have g2 : M27 191 (v1 + j + 2620) = M8 191 (v1 + j + 2620) := ((congrFun (congrFun e28 _) _).trans ((gset_ne (by omega)).trans ((congrFun (congrFun e26 _) _).trans ((gset_ne (by omega)).trans rfl)))); rw [g2]; exact hI.2.2 j h0 (by omega))) (by omega) (by omega)
      refine G.sub (L' := [(0, gA n0 190), (1, gV a), (4, gJ (b - 1))]) [1, 2, 0] rfl ?_
      exact j9 _ (b - 1) M (by omega) I C gFr.rf ⟨by have q1 := hv1; omega, fun k _ _ _ => rfl, fun j h0 h1 => by exfalso; omega⟩ (by omega) (Nat.lt_succ_self _)
    · refine g_bipush (n := 30) X dX12_feed_28 (by decide +kernel) rfl ?_
      exact hq _ _ _ _ dX12_feed_30 ⟨by omega, I, C, gFr.rf, (by have zb : M 191 10 = v1 := hv1; first | exact Or.inl ⟨by omega, by omega, rfl, fun k _ _ => rfl⟩ | exact Or.inr (Or.inl ⟨by omega, by omega, by omega, rfl, fun k _ _ => rfl⟩))⟩
  · refine g_bipush (n := 12) X dX12_feed_10 (by decide +kernel) rfl ?_
    exact hq _ _ _ _ dX12_feed_12 ⟨by omega, I, C, gFr.rf, (by have zb : M 191 10 = v1 := hv1; first | exact Or.inl ⟨by omega, by omega, rfl, fun k _ _ => rfl⟩ | exact Or.inr (Or.inl ⟨by omega, by omega, by omega, rfl, fun k _ _ => rfl⟩))⟩
