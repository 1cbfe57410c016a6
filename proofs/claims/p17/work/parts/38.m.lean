theorem gset_eqi {M : gM} {o k z j : Int} (h : j = k) : gset M o k z o j = z := by rw [h]; exact gset_eq _ _ _ _
abbrev R_e_X2_setRow : Room := { frames := 0, cells := 0, slots := 0, locals := 0 }
set_option maxRecDepth 100000 in
set_option maxHeartbeats 4000000 in
theorem e_X2_setRow {l : Launch} {n0 : Nat} {D : va_G} {cA : Nat → ClassId} {M : gM} (a : Int) (r_a : 0 ≤ a ∧ a ≤ 2) (b : Int) (r_b : -9223372036854775808 ≤ b ∧ b ≤ 9223372036854775807) (c : Int) (r_c : 1 ≤ c ∧ c ≤ 10) {sz : Nat} (hsz : 206 ≤ sz) (I : gI sz M) (C : gC sz M)   : Met l yX2_setRow (gWsOf yX2_setRow cX2_setRow 8 (Option.none : Option Jvm.ClassFile.FieldType)) R_e_X2_setRow (gPc n0 D cA [gA n0 15, gJ a, gV b, gJ c] M sz) (gQv n0 D cA sz (fun M1 => gI sz M1 ∧ gC sz M1 ∧ gFr 8192 M M1 ∧ (M1 18 a = c ∧ (∀ k : Int, ¬ k = a → M1 18 k = M 18 k)))) 0 0 (fun q => n0 ≤ q) := by
  refine gMetV [gA n0 15, gJ a, gV b, gJ c] (by decide) (Nat.le_of_ble_eq_true rfl) ⟨rfl, rfl⟩ ?_
  intro p e s m args below meth cd Q X hq
  have X : gCx p s m args meth cd n0 D cA "ParishUnion$House" cX2_setRow 8 := X
  show G p l e R_e_X2_setRow s m args below meth cd n0 D cA 8 Q 0 0 M sz 0 [(0, gA n0 15), (1, gJ a), (2, gV b), (4, gJ c)] []
  refine g_lload_n (n := 1) X 2 dX2_setRow_0 rfl rfl rfl ?_
  refine g_lstore (n := 3) (L' := [(5, gV b), (0, gA n0 15), (1, gJ a), (2, gV b), (4, gJ c)]) X dX2_setRow_1 (by decide) rfl rfl ?_
  refine g_iload (n := 5) X 4 dX2_setRow_3 rfl rfl ?_
  refine g_iconst (n := 6) X dX2_setRow_5 rfl ?_
  refine g_isub (n := 7) (z := c - 1) X dX2_setRow_6 (by omega) rfl ?_
  refine g_istore (n := 9) (L' := [(7, gJ (c - 1)), (5, gV b), (0, gA n0 15), (1, gJ a), (2, gV b), (4, gJ c)]) X dX2_setRow_7 (by decide) rfl rfl ?_
  have j4 : ∀ (N19 : Nat) (v1 v2 : Int) (M3 : gM) , (-9223372036854775808 ≤ v1 ∧ v1 ≤ 9223372036854775807) → (-1 ≤ v2 ∧ v2 ≤ 9) → gI sz M3 → gC sz M3 → gFr 8192 M M3 → (∀ k : Int, M3 18 k = M 18 k) → (v2 + 1).toNat < N19 → G p l e R_e_X2_setRow s m args below meth cd n0 D cA 8 Q 0 0 M3 sz 9 [(0, gA n0 15), (1, gJ a), (4, gJ c), (5, gV v1), (7, gJ v2)] [] := by
    intro N19; induction N19 with
    | zero => intro v1 v2 M3 rv1 rv2 IM3 CM3 FM3 hk hm21; exfalso; omega
    | succ N19 ih20 =>
      intro v1 v2 M3 rv1 rv2 IM3 CM3 FM3 hk hm21
      refine g_iload (n := 11) X 4 dX2_setRow_9 rfl rfl ?_
      refine g_if_lt (n := 14) (tgt := 47) X dX2_setRow_11 (by decide) (by omega) rfl (fun c22 => ?_) (fun c22 => ?_)
      · refine g_aload_n (n := 48) X 0 dX2_setRow_47 rfl rfl rfl ?_
        refine gg_2_2 (n := 51) (z := 18) X (by decide) (gsz hsz (by decide)) lay_15 kw_1_101 dX2_setRow_48 rfl (rf_15_2 IM3 (gsz hsz (by decide))) (by decide) ?_
        refine g_iload_n (n := 52) X 1 dX2_setRow_51 rfl rfl rfl ?_
        refine g_iload (n := 54) X 2 dX2_setRow_52 rfl rfl ?_
        refine g_iast (n := 55) X (by decide) (gsz hsz (by decide)) lay_18 (by omega) (by omega) (by decide) dX2_setRow_54 rfl ?_
        refine G.nm (fun M23 e24 => ?_)
        have IM23 : gI sz M23 := gI.set IM3 (ra_18 a).1 (by omega) e24
        have CM23 : gC sz M23 := gC.set CM3 (ra_18 a).2.1 e24
        exact hq _ _ _ dX2_setRow_55 ⟨IM23, CM23, (gFr.s (gFr.c gFr.rf FM3 rfl) e24 (ra_18 a).2.2 rfl), ⟨(congrFun (congrFun e24 _) _).trans (gset_eq _ _ _ _), fun k g => (congrFun (congrFun e24 _) _).trans ((gset_ne (by omega)).trans (hk k))⟩⟩
      · refine g_aload_n (n := 15) X 0 dX2_setRow_14 rfl rfl rfl ?_
        refine gg_2_3 (n := 18) (z := 19) X (by decide) (gsz hsz (by decide)) lay_15 kw_1_103 dX2_setRow_15 rfl (rf_15_3 IM3 (gsz hsz (by decide))) (by decide) ?_
        refine g_iload_n (n := 19) X 1 dX2_setRow_18 rfl rfl rfl ?_
        refine g_bipush (n := 21) X dX2_setRow_19 (by decide +kernel) rfl ?_
        refine g_imul (n := 22) (z := a * 10) X dX2_setRow_21 rfl rfl ?_
        refine g_iload (n := 24) X 4 dX2_setRow_22 rfl rfl ?_
        refine g_iadd (n := 25) (z := (a * 10) + v2) X dX2_setRow_24 rfl rfl ?_
        refine g_lload (n := 27) X 3 dX2_setRow_25 rfl rfl ?_
        refine g_ldc2 (n := 30) (z := 10) X dX2_setRow_27 kw_5_144 (by decide +kernel) rfl ?_
        refine g_lremA (n := 31) X dX2_setRow_30 (by decide +kernel) rfl (fun v25 rv25 xv25 => ?_)
        clear xv25
        refine g_l2iA (n := 32) X dX2_setRow_31 rfl (fun v26 rv26 xv26 => ?_)
        clear xv26
        refine g_iast (n := 33) X (by decide) (gsz hsz (by decide)) lay_19 (by omega) (by omega) (by decide) dX2_setRow_32 rfl ?_
        refine G.nm (fun M27 e28 => ?_)
        have IM27 : gI sz M27 := gI.set IM3 (ra_19 ((a * 10) + v2)).1 (by omega) e28
        have CM27 : gC sz M27 := gC.set CM3 (ra_19 ((a * 10) + v2)).2.1 e28
        refine g_lload (n := 35) X 3 dX2_setRow_33 rfl rfl ?_
        refine g_ldc2 (n := 38) (z := 10) X dX2_setRow_35 kw_5_144 (by decide +kernel) rfl ?_
        refine g_ldivA (n := 39) X dX2_setRow_38 (by decide +kernel) rfl (fun v29 rv29 xv29 => ?_)
        clear xv29
        refine g_lstore (n := 41) (L' := [(5, gV v29), (0, gA n0 15), (1, gJ a), (4, gJ c), (7, gJ v2)]) X dX2_setRow_39 (by decide) rfl rfl ?_
        refine g_iinc (n := 44) (w := v2 - 1) (L' := [(7, gJ (v2 - 1)), (5, gV v29), (0, gA n0 15), (1, gJ a), (4, gJ c)]) X 4 dX2_setRow_41 rfl rfl (by decide) rfl rfl ?_
        refine g_goto (tgt := 9) X dX2_setRow_44 (by decide) ?_
        refine G.sub (L' := [(0, gA n0 15), (1, gJ a), (4, gJ c), (5, gV v29), (7, gJ (v2 - 1))]) [2, 3, 4, 1, 0] rfl ?_
        exact ih20 v29 (v2 - 1) M27 (by omega) (by omega) IM27 CM27 (gFr.s (gFr.c gFr.rf FM3 rfl) e28 (ra_19 ((a * 10) + v2)).2.2 rfl) (fun k => ((congrFun (congrFun e28 _) _).trans ((gset_ne (by omega)).trans (hk k)))) (by omega)
  refine G.sub (L' := [(0, gA n0 15), (1, gJ a), (4, gJ c), (5, gV b), (7, gJ (c - 1))]) [2, 3, 5, 1, 0] rfl ?_
  exact j4 _ b (c - 1) M (by omega) (by omega) I C gFr.rf (fun k => rfl) (Nat.lt_succ_self _)
abbrev R_e_X11_frosts : Room := { frames := 1, cells := 0, slots := 0, locals := 27 }
set_option maxRecDepth 100000 in
set_option maxHeartbeats 4000000 in
theorem e_X11_frosts {l : Launch} {n0 : Nat} {D : va_G} {cA : Nat → ClassId} {M : gM} (a : Int) (r_a : -2147483648 ≤ a ∧ a ≤ 2147483647) (b : Int) (r_b : -9223372036854775808 ≤ b ∧ b ≤ 9223372036854775807) (c : Int) (r_c : -2147483648 ≤ c ∧ c ≤ 2147483647) {sz : Nat} (hsz : 206 ≤ sz) (I : gI sz M) (C : gC sz M)   : Met l yX11_frosts (gWsOf yX11_frosts cX11_frosts 8 (Option.some Jvm.ClassFile.FieldType.int)) R_e_X11_frosts (gPc n0 D cA [gA n0 0, gJ a, gV b, gJ c] M sz) (gQi n0 D cA sz (fun z M1 => (-2 ≤ z ∧ z ≤ 10) ∧ gI sz M1 ∧ gC sz M1 ∧ gFr 8192 M M1 ∧ (((¬ (0 ≤ a ∧ a ≤ 2) ∧ z = -1) ∨ ((0 ≤ a ∧ a ≤ 2) ∧ ¬ ((1 ≤ c ∧ c ≤ 10) ∧ 0 ≤ b ∧ b < gTen c) ∧ z = -2) ∨ ((0 ≤ a ∧ a ≤ 2) ∧ ((1 ≤ c ∧ c ≤ 10) ∧ 0 ≤ b ∧ b < gTen c) ∧ z = c)) ∧ ((z < 0 ∧ (∀ k : Int, M1 18 k = M 18 k)) ∨ (0 ≤ z ∧ M1 18 a = z ∧ (∀ k : Int, ¬ k = a → M1 18 k = M 18 k)))))) 0 0 (fun q => n0 ≤ q) := by
  refine gMetI [gA n0 0, gJ a, gV b, gJ c] (by decide) (Nat.le_of_ble_eq_true rfl) ⟨rfl, rfl⟩ ?_
  intro p e s m args below meth cd Q X hq
  have X : gCx p s m args meth cd n0 D cA "ParishUnion" cX11_frosts 8 := X
  show G p l e R_e_X11_frosts s m args below meth cd n0 D cA 8 Q 0 0 M sz 0 [(0, gA n0 0), (1, gJ a), (2, gV b), (4, gJ c)] []
  refine g_iload_n (n := 1) X 1 dX11_frosts_0 rfl rfl rfl ?_
  refine g_iconst (n := 2) X dX11_frosts_1 rfl ?_
  refine g_iconst (n := 3) X dX11_frosts_2 rfl ?_
  refine g_callSi (n := 6) (As := [gJ a, gJ 0, gJ 2]) (rest := []) (cs1 := 0) (ss1 := 0) X (s_X11_within a (by omega) 0 (by omega) 2 (by omega) hsz I C ) okX11_within kw_3_29 kw_3_30 ⟨rfl, rfl⟩ ⟨Nat.le_of_ble_eq_true rfl, Nat.le_of_ble_eq_true rfl⟩ rfl rfl (Nat.le_of_ble_eq_true rfl) ⟨Nat.le_of_ble_eq_true rfl, Nat.le_of_ble_eq_true rfl⟩ rfl rfl dX11_frosts_3 rfl (fun v1 M2 P3 => ?_)
  obtain ⟨rfl, rv1, xv1⟩ := P3
  refine g_if_ne (n := 9) (tgt := 11) X dX11_frosts_6 (by decide) (by omega) rfl (fun c4 => ?_) (fun c4 => ?_)
  · refine g_iload (n := 13) X 3 dX11_frosts_11 rfl rfl ?_
    refine g_iconst (n := 14) X dX11_frosts_13 rfl ?_
    refine g_bipush (n := 16) X dX11_frosts_14 (by decide +kernel) rfl ?_
    refine g_callSi (n := 19) (As := [gJ c, gJ 1, gJ 10]) (rest := []) (cs1 := 0) (ss1 := 0) X (s_X11_within c (by omega) 1 (by omega) 10 (by omega) hsz I C ) okX11_within kw_3_29 kw_3_30 ⟨rfl, rfl⟩ ⟨Nat.le_of_ble_eq_true rfl, Nat.le_of_ble_eq_true rfl⟩ rfl rfl (Nat.le_of_ble_eq_true rfl) ⟨Nat.le_of_ble_eq_true rfl, Nat.le_of_ble_eq_true rfl⟩ rfl rfl dX11_frosts_16 rfl (fun v5 M6 P7 => ?_)
    obtain ⟨rfl, rv5, xv5⟩ := P7
    refine g_if_ne (n := 22) (tgt := 25) X dX11_frosts_19 (by decide) (by omega) rfl (fun c8 => ?_) (fun c8 => ?_)
    · refine g_lconst (n := 26) (z := 1) X dX11_frosts_25 (by decide +kernel) rfl ?_
      refine g_lstore (n := 28) (L' := [(5, gV 1), (0, gA n0 0), (1, gJ a), (2, gV b), (4, gJ c)]) X dX11_frosts_26 (by decide) rfl rfl ?_
      refine g_iconst (n := 29) X dX11_frosts_28 rfl ?_
      refine g_istore (n := 31) (L' := [(7, gJ 0), (5, gV 1), (0, gA n0 0), (1, gJ a), (2, gV b), (4, gJ c)]) X dX11_frosts_29 (by decide) rfl rfl ?_
      have j12 : ∀ (N21 : Nat) (v9 v10 : Int) , (1 ≤ v9 ∧ v9 ≤ 10000000000) → (0 ≤ v10 ∧ v10 ≤ 10) → (v9 = gTen v10 ∧ (v10 ≤ c ∨ (c ≤ 0 ∧ v10 = 0))) → (10 - v10).toNat < N21 → G p l e R_e_X11_frosts s m args below meth cd n0 D cA 8 Q 0 0 M sz 31 [(0, gA n0 0), (1, gJ a), (2, gV b), (4, gJ c), (5, gV v9), (7, gJ v10)] [] := by
        intro N21; induction N21 with
        | zero => intro v9 v10 rv9 rv10 hp5 hm23; exfalso; omega
        | succ N21 ih22 =>
          intro v9 v10 rv9 rv10 hp5 hm23
          have hT5 : v10 < 10 → 1 ≤ gTen v10 ∧ gTen v10 ≤ 1000000000 := fun h => gTen_r (by omega) h
          refine g_iload (n := 33) X 5 dX11_frosts_31 rfl rfl ?_
          refine g_iload (n := 35) X 3 dX11_frosts_33 rfl rfl ?_
          refine g_icmp_ge (n := 38) (tgt := 52) X dX11_frosts_35 (by decide) (by omega) (by omega) rfl (fun c24 => ?_) (fun c24 => ?_)
          · have hT6 : (1 ≤ c ∧ c ≤ 10) → gTen v10 = gTen c := fun h => by rw [show v10 = c by omega]
            refine g_lload_n (n := 53) X 2 dX11_frosts_52 rfl rfl rfl ?_
            refine g_lconst (n := 54) (z := 0) X dX11_frosts_53 (by decide +kernel) rfl ?_
            refine g_lcmp2 (n := 55) X dX11_frosts_54 (by omega) (by omega) rfl (fun v25 xv25 rv25 => ?_)
            refine g_if_lt (n := 58) (tgt := 65) X dX11_frosts_55 (by decide) (by omega) rfl (fun c26 => ?_) (fun c26 => ?_)
            · refine g_bipush (n := 67) X dX11_frosts_65 (by decide +kernel) rfl ?_
              exact hq _ _ _ _ dX11_frosts_67 ⟨by omega, I, C, gFr.rf, ⟨by omega, Or.inl ⟨by omega, fun k => rfl⟩⟩⟩
            · refine g_lload_n (n := 59) X 2 dX11_frosts_58 rfl rfl rfl ?_
              refine g_lload (n := 61) X 4 dX11_frosts_59 rfl rfl ?_
              refine g_lcmp2 (n := 62) X dX11_frosts_61 (by omega) (by omega) rfl (fun v27 xv27 rv27 => ?_)
              refine g_if_lt (n := 65) (tgt := 68) X dX11_frosts_62 (by decide) (by omega) rfl (fun c28 => ?_) (fun c28 => ?_)
              · refine g_aload_n (n := 69) X 0 dX11_frosts_68 rfl rfl rfl ?_
                refine gg_11_0 (n := 72) (z := 1) X (by decide) (gsz hsz (by decide)) lay_0 kw_2_231 dX11_frosts_69 rfl (rf_0_0 I (gsz hsz (by decide))) (by decide) ?_
                refine gg_9_6 (n := 75) (z := 15) X (by decide) (gsz hsz (by decide)) lay_1 kw_2_119 dX11_frosts_72 rfl (rf_1_6 I (gsz hsz (by decide))) (by decide) ?_
                refine g_iload_n (n := 76) X 1 dX11_frosts_75 rfl rfl rfl ?_
                refine g_lload_n (n := 77) X 2 dX11_frosts_76 rfl rfl rfl ?_
                refine g_iload (n := 79) X 3 dX11_frosts_77 rfl rfl ?_
                refine g_callVv (n := 82) (As := [gJ a, gV b, gJ c]) (rest := []) (cs1 := 0) (ss1 := 0) X (e_X2_setRow a (by omega) b (by omega) c (by omega) hsz I C ) okX2_setRow kw_5_140 ⟨kw_5_141, kw_5_142⟩ ⟨rfl, rfl⟩ ⟨Nat.le_of_ble_eq_true rfl, Nat.le_of_ble_eq_true rfl⟩ rfl (by decide) (gsz hsz (by decide)) lay_15 rfl rfl (Nat.le_of_ble_eq_true rfl) ⟨Nat.le_of_ble_eq_true rfl, Nat.le_of_ble_eq_true rfl⟩ rfl rfl dX11_frosts_79 rfl (fun M30 P31 => ?_)
                obtain ⟨IM30, CM30, FM30, xM30⟩ := P31
                refine g_iload (n := 84) X 3 dX11_frosts_82 rfl rfl ?_
                exact hq _ _ _ _ dX11_frosts_84 ⟨by omega, IM30, CM30, (gFr.c gFr.rf FM30 rfl), ⟨by omega, Or.inr ⟨by omega, by rw [xM30.1], xM30.2⟩⟩⟩
              · refine g_bipush (n := 67) X dX11_frosts_65 (by decide +kernel) rfl ?_
                exact hq _ _ _ _ dX11_frosts_67 ⟨by omega, I, C, gFr.rf, ⟨by omega, Or.inl ⟨by omega, fun k => rfl⟩⟩⟩
          · refine g_lload (n := 40) X 4 dX11_frosts_38 rfl rfl ?_
            refine g_ldc2 (n := 43) (z := 10) X dX11_frosts_40 kw_5_139 (by decide +kernel) rfl ?_
            refine g_lmul (n := 44) (z := v9 * 10) X dX11_frosts_43 rfl rfl ?_
            refine g_lstore (n := 46) (L' := [(5, gV (v9 * 10)), (0, gA n0 0), (1, gJ a), (2, gV b), (4, gJ c), (7, gJ v10)]) X dX11_frosts_44 (by decide) rfl rfl ?_
            refine g_iinc (n := 49) (w := v10 + 1) (L' := [(7, gJ (v10 + 1)), (5, gV (v9 * 10)), (0, gA n0 0), (1, gJ a), (2, gV b), (4, gJ c)]) X 5 dX11_frosts_46 rfl rfl (by decide) rfl rfl ?_
            refine g_goto (tgt := 31) X dX11_frosts_49 (by decide) ?_
            refine G.sub (L' := [(0, gA n0 0), (1, gJ a), (2, gV b), (4, gJ c), (5, gV (v9 * 10)), (7, gJ (v10 + 1))]) [2, 3, 4, 5, 1, 0] rfl ?_
            exact ih22 (v9 * 10) (v10 + 1) (by omega) (by omega) ⟨by rw [gTen_s (by omega) (by omega)]; omega, by omega⟩ (by omega)
      refine G.sub (L' := [(0, gA n0 0), (1, gJ a), (2, gV b), (4, gJ c), (5, gV 1), (7, gJ 0)]) [2, 3, 4, 5, 1, 0] rfl ?_
      exact j12 _ 1 0 (by omega) (by omega) ⟨by decide, by omega⟩ (Nat.lt_succ_self _)
    · refine g_bipush (n := 24) X dX11_frosts_22 (by decide +kernel) rfl ?_
      exact hq _ _ _ _ dX11_frosts_24 ⟨by omega, I, C, gFr.rf, ⟨by omega, Or.inl ⟨by omega, fun k => rfl⟩⟩⟩
  · refine g_iconst (n := 10) X dX11_frosts_9 rfl ?_
    exact hq _ _ _ _ dX11_frosts_10 ⟨by omega, I, C, gFr.rf, ⟨by omega, Or.inl ⟨by omega, fun k => rfl⟩⟩⟩
abbrev R_e_X12_frosts : Room := { frames := 1, cells := 0, slots := 0, locals := 22 }
set_option maxRecDepth 100000 in
set_option maxHeartbeats 4000000 in
theorem e_X12_frosts {l : Launch} {n0 : Nat} {D : va_G} {cA : Nat → ClassId} {M : gM} (a : Int) (r_a : -2147483648 ≤ a ∧ a ≤ 2147483647) (b : Int) (r_b : -9223372036854775808 ≤ b ∧ b ≤ 9223372036854775807) (c : Int) (r_c : -2147483648 ≤ c ∧ c ≤ 2147483647) {sz : Nat} (hsz : 206 ≤ sz) (I : gI sz M) (C : gC sz M)   : Met l yX12_frosts (gWsOf yX12_frosts cX12_frosts 10 (Option.some Jvm.ClassFile.FieldType.int)) R_e_X12_frosts (gPc n0 D cA [gA n0 190, gJ a, gV b, gJ c] M sz) (gQi n0 D cA sz (fun z M1 => (-2 ≤ z ∧ z ≤ 10) ∧ gI sz M1 ∧ gC sz M1 ∧ gFr 72057594037927936 M M1 ∧ (((¬ (0 ≤ a ∧ a ≤ 2) ∧ z = -1) ∨ ((0 ≤ a ∧ a ≤ 2) ∧ ¬ ((1 ≤ c ∧ c ≤ 10) ∧ 0 ≤ b ∧ b < gTen c) ∧ z = -2) ∨ ((0 ≤ a ∧ a ≤ 2) ∧ ((1 ≤ c ∧ c ≤ 10) ∧ 0 ≤ b ∧ b < gTen c) ∧ z = c)) ∧ ((z < 0 ∧ (∀ k : Int, 2580 ≤ k → k < 2583 → M1 191 k = M 191 k)) ∨ (0 ≤ z ∧ M1 191 (a + 2580) = z ∧ (∀ k : Int, 2580 ≤ k → k < 2583 → ¬ k = a + 2580 → M1 191 k = M 191 k)))))) 0 0 (fun q => n0 ≤ q) := by
  refine gMetI [gA n0 190, gJ a, gV b, gJ c] (by decide) (Nat.le_of_ble_eq_true rfl) ⟨rfl, rfl⟩ ?_
  intro p e s m args below meth cd Q X hq
  have X : gCx p s m args meth cd n0 D cA "ParishUnionModel" cX12_frosts 10 := X
  show G p l e R_e_X12_frosts s m args below meth cd n0 D cA 10 Q 0 0 M sz 0 [(0, gA n0 190), (1, gJ a), (2, gV b), (4, gJ c)] []
  refine g_iload_n (n := 1) X 1 dX12_frosts_0 rfl rfl rfl ?_
  refine g_iconst (n := 2) X dX12_frosts_1 rfl ?_
  refine g_iconst (n := 3) X dX12_frosts_2 rfl ?_
  refine g_callSi (n := 6) (As := [gJ a, gJ 0, gJ 2]) (rest := []) (cs1 := 0) (ss1 := 0) X (s_X12_in a (by omega) 0 (by omega) 2 (by omega) hsz I C ) okX12_in kw_6_106 kw_6_107 ⟨rfl, rfl⟩ ⟨Nat.le_of_ble_eq_true rfl, Nat.le_of_ble_eq_true rfl⟩ rfl rfl (Nat.le_of_ble_eq_true rfl) ⟨Nat.le_of_ble_eq_true rfl, Nat.le_of_ble_eq_true rfl⟩ rfl rfl dX12_frosts_3 rfl (fun v1 M2 P3 => ?_)
  obtain ⟨rfl, rv1, xv1⟩ := P3
  refine g_if_ne (n := 9) (tgt := 11) X dX12_frosts_6 (by decide) (by omega) rfl (fun c4 => ?_) (fun c4 => ?_)
  · refine g_lconst (n := 12) (z := 1) X dX12_frosts_11 (by decide +kernel) rfl ?_
    refine g_lstore (n := 14) (L' := [(5, gV 1), (0, gA n0 190), (1, gJ a), (2, gV b), (4, gJ c)]) X dX12_frosts_12 (by decide) rfl rfl ?_
    refine g_iconst (n := 15) X dX12_frosts_14 rfl ?_
    refine g_istore (n := 17) (L' := [(7, gJ 0), (5, gV 1), (0, gA n0 190), (1, gJ a), (2, gV b), (4, gJ c)]) X dX12_frosts_15 (by decide) rfl rfl ?_
    have j8 : ∀ (N85 : Nat) (v5 v6 : Int) , (1 ≤ v5 ∧ v5 ≤ 10000000000) → (0 ≤ v6 ∧ v6 ≤ 10) → (v5 = gTen v6 ∧ (v6 ≤ c ∨ (c ≤ 0 ∧ v6 = 0))) → (10 - v6).toNat < N85 → G p l e R_e_X12_frosts s m args below meth cd n0 D cA 10 Q 0 0 M sz 17 [(0, gA n0 190), (1, gJ a), (2, gV b), (4, gJ c), (5, gV v5), (7, gJ v6)] [] := by
      intro N85; induction N85 with
      | zero => intro v5 v6 rv5 rv6 hp5 hm87; exfalso; omega
      | succ N85 ih86 =>
        intro v5 v6 rv5 rv6 hp5 hm87
        have hT5 : v6 < 10 → 1 ≤ gTen v6 ∧ gTen v6 ≤ 1000000000 := fun h => gTen_r (by omega) h
        refine g_iload (n := 19) X 5 dX12_frosts_17 rfl rfl ?_
        refine g_iload (n := 21) X 3 dX12_frosts_19 rfl rfl ?_
        refine g_icmp_ge (n := 24) (tgt := 45) X dX12_frosts_21 (by decide) (by omega) (by omega) rfl (fun c88 => ?_) (fun c88 => ?_)
        · have hT6 : (1 ≤ c ∧ c ≤ 10) → gTen v6 = gTen c := fun h => by rw [show v6 = c by omega]
          refine g_iload (n := 47) X 3 dX12_frosts_45 rfl rfl ?_
          refine g_iconst (n := 48) X dX12_frosts_47 rfl ?_
          refine g_bipush (n := 50) X dX12_frosts_48 (by decide +kernel) rfl ?_
          refine g_callSi (n := 53) (As := [gJ c, gJ 1, gJ 10]) (rest := []) (cs1 := 0) (ss1 := 0) X (s_X12_in c (by omega) 1 (by omega) 10 (by omega) hsz I C ) okX12_in kw_6_106 kw_6_107 ⟨rfl, rfl⟩ ⟨Nat.le_of_ble_eq_true rfl, Nat.le_of_ble_eq_true rfl⟩ rfl rfl (Nat.le_of_ble_eq_true rfl) ⟨Nat.le_of_ble_eq_true rfl, Nat.le_of_ble_eq_true rfl⟩ rfl rfl dX12_frosts_50 rfl (fun v89 M90 P91 => ?_)
          obtain ⟨rfl, rv89, xv89⟩ := P91
          refine g_if_eq (n := 56) (tgt := 69) X dX12_frosts_53 (by decide) (by omega) rfl (fun c92 => ?_) (fun c92 => ?_)
          · refine g_bipush (n := 71) X dX12_frosts_69 (by decide +kernel) rfl ?_
            exact hq _ _ _ _ dX12_frosts_71 ⟨by omega, I, C, gFr.rf, ⟨by omega, Or.inl ⟨by omega, fun k _ _ => rfl⟩⟩⟩
          · refine g_lload_n (n := 57) X 2 dX12_frosts_56 rfl rfl rfl ?_
            refine g_lconst (n := 58) (z := 0) X dX12_frosts_57 (by decide +kernel) rfl ?_
            refine g_lcmp2 (n := 59) X dX12_frosts_58 (by omega) (by omega) rfl (fun v93 xv93 rv93 => ?_)
            refine g_if_lt (n := 62) (tgt := 69) X dX12_frosts_59 (by decide) (by omega) rfl (fun c94 => ?_) (fun c94 => ?_)
            · refine g_bipush (n := 71) X dX12_frosts_69 (by decide +kernel) rfl ?_
              exact hq _ _ _ _ dX12_frosts_71 ⟨by omega, I, C, gFr.rf, ⟨by omega, Or.inl ⟨by omega, fun k _ _ => rfl⟩⟩⟩
            · refine g_lload_n (n := 63) X 2 dX12_frosts_62 rfl rfl rfl ?_
              refine g_lload (n := 65) X 4 dX12_frosts_63 rfl rfl ?_
              refine g_lcmp2 (n := 66) X dX12_frosts_65 (by omega) (by omega) rfl (fun v95 xv95 rv95 => ?_)
              refine g_if_lt (n := 69) (tgt := 72) X dX12_frosts_66 (by decide) (by omega) rfl (fun c96 => ?_) (fun c96 => ?_)
              · refine g_lload_n (n := 73) X 2 dX12_frosts_72 rfl rfl rfl ?_
                refine g_lstore (n := 75) (L' := [(7, gV b), (0, gA n0 190), (1, gJ a), (2, gV b), (4, gJ c), (5, gV v5)]) X dX12_frosts_73 (by decide) rfl rfl ?_
                refine g_iload (n := 77) X 4 dX12_frosts_75 rfl rfl ?_
                refine g_iconst (n := 78) X dX12_frosts_77 rfl ?_
                refine g_isub (n := 79) (z := c - 1) X dX12_frosts_78 (by omega) rfl ?_
                refine g_istore (n := 81) (L' := [(9, gJ (c - 1)), (7, gV b), (0, gA n0 190), (1, gJ a), (2, gV b), (4, gJ c), (5, gV v5)]) X dX12_frosts_79 (by decide) rfl rfl ?_
                have j100 : ∀ (N115 : Nat) (v97 v98 : Int) (M99 : gM) , (-9223372036854775808 ≤ v97 ∧ v97 ≤ 9223372036854775807) → (-1 ≤ v98 ∧ v98 ≤ 9) → gI sz M99 → gC sz M99 → gFr 72057594037927936 M M99 → (∀ k : Int, 2580 ≤ k → k < 2583 → M99 191 k = M 191 k) → (v98 + 1).toNat < N115 → G p l e R_e_X12_frosts s m args below meth cd n0 D cA 10 Q 0 0 M99 sz 81 [(0, gA n0 190), (1, gJ a), (4, gJ c), (7, gV v97), (9, gJ v98)] [] := by
                  intro N115; induction N115 with
                  | zero => intro v97 v98 M99 rv97 rv98 IM99 CM99 FM99 hk hm117; exfalso; omega
                  | succ N115 ih116 =>
                    intro v97 v98 M99 rv97 rv98 IM99 CM99 FM99 hk hm117
                    refine g_iload (n := 83) X 4 dX12_frosts_81 rfl rfl ?_
                    refine g_if_lt (n := 86) (tgt := 123) X dX12_frosts_83 (by decide) (by omega) rfl (fun c118 => ?_) (fun c118 => ?_)
                    · refine g_aload_n (n := 124) X 0 dX12_frosts_123 rfl rfl rfl ?_
                      refine gg_12_1 (n := 127) (z := 191) X (by decide) (gsz hsz (by decide)) lay_190 kw_6_27 dX12_frosts_124 rfl (rf_190_1 IM99 (gsz hsz (by decide))) (by decide) ?_
                      refine g_sipush (n := 130) X dX12_frosts_127 (by decide +kernel) rfl ?_
                      refine g_iload_n (n := 131) X 1 dX12_frosts_130 rfl rfl rfl ?_
                      refine g_iadd (n := 132) (z := a + 2580) X dX12_frosts_131 (by omega) rfl ?_
                      refine g_iload (n := 134) X 2 dX12_frosts_132 rfl rfl ?_
                      refine g_iast (n := 135) X (by decide) (gsz hsz (by decide)) lay_191 (by omega) (by omega) (by decide) dX12_frosts_134 rfl ?_
                      refine G.nm (fun M119 e120 => ?_)
                      have IM119 : gI sz M119 := gI.set IM99 (rs_FMANY (k := a + 2580) (by omega)).1 (by omega) e120
                      have CM119 : gC sz M119 := gC.set CM99 (rs_FMANY (k := a + 2580) (by omega)).2.1 e120
                      refine g_iload (n := 137) X 2 dX12_frosts_135 rfl rfl ?_
                      exact hq _ _ _ _ dX12_frosts_137 ⟨by omega, IM119, CM119, (gFr.s (gFr.c gFr.rf FM99 rfl) e120 (rs_FMANY (k := a + 2580) (by omega)).2.2 rfl), ⟨by omega, Or.inr ⟨by omega, (congrFun (congrFun e120 _) _).trans (gset_eqi (by omega)), fun k k0 k1 g => (congrFun (congrFun e120 _) _).trans ((gset_ne (by omega)).trans (hk k k0 k1))⟩⟩⟩
                    · refine g_aload_n (n := 87) X 0 dX12_frosts_86 rfl rfl rfl ?_
                      refine gg_12_1 (n := 90) (z := 191) X (by decide) (gsz hsz (by decide)) lay_190 kw_6_27 dX12_frosts_87 rfl (rf_190_1 IM99 (gsz hsz (by decide))) (by decide) ?_
                      refine g_sipush (n := 93) X dX12_frosts_90 (by decide +kernel) rfl ?_
                      refine g_bipush (n := 95) X dX12_frosts_93 (by decide +kernel) rfl ?_
                      refine g_iload_n (n := 96) X 1 dX12_frosts_95 rfl rfl rfl ?_
                      refine g_imul (n := 97) (z := 10 * a) X dX12_frosts_96 rfl rfl ?_
                      refine g_iadd (n := 98) (z := 2584 + (10 * a)) X dX12_frosts_97 rfl rfl ?_
                      refine g_iload (n := 100) X 4 dX12_frosts_98 rfl rfl ?_
                      refine g_iadd (n := 101) (z := (2584 + (10 * a)) + v98) X dX12_frosts_100 rfl rfl ?_
                      refine g_lload (n := 103) X 3 dX12_frosts_101 rfl rfl ?_
                      refine g_ldc2 (n := 106) (z := 10) X dX12_frosts_103 kw_8_0 (by decide +kernel) rfl ?_
                      refine g_lremA (n := 107) X dX12_frosts_106 (by decide +kernel) rfl (fun v121 rv121 xv121 => ?_)
                      clear xv121
                      refine g_l2iA (n := 108) X dX12_frosts_107 rfl (fun v122 rv122 xv122 => ?_)
                      clear xv122
                      refine g_iast (n := 109) X (by decide) (gsz hsz (by decide)) lay_191 (by omega) (by omega) (by decide) dX12_frosts_108 rfl ?_
                      refine G.nm (fun M123 e124 => ?_)
                      have IM123 : gI sz M123 := gI.set IM99 (rs_FROW (k := (2584 + (10 * a)) + v98) (by omega)).1 (by omega) e124
                      have CM123 : gC sz M123 := gC.set CM99 (rs_FROW (k := (2584 + (10 * a)) + v98) (by omega)).2.1 e124
                      refine g_lload (n := 111) X 3 dX12_frosts_109 rfl rfl ?_
                      refine g_ldc2 (n := 114) (z := 10) X dX12_frosts_111 kw_8_0 (by decide +kernel) rfl ?_
                      refine g_ldivA (n := 115) X dX12_frosts_114 (by decide +kernel) rfl (fun v125 rv125 xv125 => ?_)
                      clear xv125
                      refine g_lstore (n := 117) (L' := [(7, gV v125), (0, gA n0 190), (1, gJ a), (4, gJ c), (9, gJ v98)]) X dX12_frosts_115 (by decide) rfl rfl ?_
                      refine g_iinc (n := 120) (w := v98 - 1) (L' := [(9, gJ (v98 - 1)), (7, gV v125), (0, gA n0 190), (1, gJ a), (4, gJ c)]) X 4 dX12_frosts_117 rfl rfl (by decide) rfl rfl ?_
                      refine g_goto (tgt := 81) X dX12_frosts_120 (by decide) ?_
                      refine G.sub (L' := [(0, gA n0 190), (1, gJ a), (4, gJ c), (7, gV v125), (9, gJ (v98 - 1))]) [2, 3, 4, 1, 0] rfl ?_
                      exact ih116 v125 (v98 - 1) M123 (by omega) (by omega) IM123 CM123 (gFr.s (gFr.c gFr.rf FM99 rfl) e124 (rs_FROW (k := (2584 + (10 * a)) + v98) (by omega)).2.2 rfl) (fun k k0 k1 => ((congrFun (congrFun e124 _) _).trans ((gset_ne (by omega)).trans (hk k k0 k1)))) (by omega)
                refine G.sub (L' := [(0, gA n0 190), (1, gJ a), (4, gJ c), (7, gV b), (9, gJ (c - 1))]) [2, 3, 5, 1, 0] rfl ?_
                exact j100 _ b (c - 1) M (by omega) (by omega) I C gFr.rf (fun k k0 k1 => rfl) (Nat.lt_succ_self _)
              · refine g_bipush (n := 71) X dX12_frosts_69 (by decide +kernel) rfl ?_
                exact hq _ _ _ _ dX12_frosts_71 ⟨by omega, I, C, gFr.rf, ⟨by omega, Or.inl ⟨by omega, fun k _ _ => rfl⟩⟩⟩
        · refine g_iload (n := 26) X 5 dX12_frosts_24 rfl rfl ?_
          refine g_bipush (n := 28) X dX12_frosts_26 (by decide +kernel) rfl ?_
          refine g_icmp_ge (n := 31) (tgt := 45) X dX12_frosts_28 (by decide) (by omega) (by omega) rfl (fun c126 => ?_) (fun c126 => ?_)
          · have hT6 : (1 ≤ c ∧ c ≤ 10) → gTen v6 = gTen c := fun h => by rw [show v6 = c by omega]
            refine g_iload (n := 47) X 3 dX12_frosts_45 rfl rfl ?_
            refine g_iconst (n := 48) X dX12_frosts_47 rfl ?_
            refine g_bipush (n := 50) X dX12_frosts_48 (by decide +kernel) rfl ?_
            refine g_callSi (n := 53) (As := [gJ c, gJ 1, gJ 10]) (rest := []) (cs1 := 0) (ss1 := 0) X (s_X12_in c (by omega) 1 (by omega) 10 (by omega) hsz I C ) okX12_in kw_6_106 kw_6_107 ⟨rfl, rfl⟩ ⟨Nat.le_of_ble_eq_true rfl, Nat.le_of_ble_eq_true rfl⟩ rfl rfl (Nat.le_of_ble_eq_true rfl) ⟨Nat.le_of_ble_eq_true rfl, Nat.le_of_ble_eq_true rfl⟩ rfl rfl dX12_frosts_50 rfl (fun v127 M128 P129 => ?_)
            obtain ⟨rfl, rv127, xv127⟩ := P129
            refine g_if_eq (n := 56) (tgt := 69) X dX12_frosts_53 (by decide) (by omega) rfl (fun c130 => ?_) (fun c130 => ?_)
            · refine g_bipush (n := 71) X dX12_frosts_69 (by decide +kernel) rfl ?_
              exact hq _ _ _ _ dX12_frosts_71 ⟨by omega, I, C, gFr.rf, ⟨by omega, Or.inl ⟨by omega, fun k _ _ => rfl⟩⟩⟩
            · refine g_lload_n (n := 57) X 2 dX12_frosts_56 rfl rfl rfl ?_
              refine g_lconst (n := 58) (z := 0) X dX12_frosts_57 (by decide +kernel) rfl ?_
              refine g_lcmp2 (n := 59) X dX12_frosts_58 (by omega) (by omega) rfl (fun v131 xv131 rv131 => ?_)
              refine g_if_lt (n := 62) (tgt := 69) X dX12_frosts_59 (by decide) (by omega) rfl (fun c132 => ?_) (fun c132 => ?_)
              · refine g_bipush (n := 71) X dX12_frosts_69 (by decide +kernel) rfl ?_
                exact hq _ _ _ _ dX12_frosts_71 ⟨by omega, I, C, gFr.rf, ⟨by omega, Or.inl ⟨by omega, fun k _ _ => rfl⟩⟩⟩
              · refine g_lload_n (n := 63) X 2 dX12_frosts_62 rfl rfl rfl ?_
                refine g_lload (n := 65) X 4 dX12_frosts_63 rfl rfl ?_
                refine g_lcmp2 (n := 66) X dX12_frosts_65 (by omega) (by omega) rfl (fun v133 xv133 rv133 => ?_)
                refine g_if_lt (n := 69) (tgt := 72) X dX12_frosts_66 (by decide) (by omega) rfl (fun c134 => ?_) (fun c134 => ?_)
                · refine g_lload_n (n := 73) X 2 dX12_frosts_72 rfl rfl rfl ?_
                  refine g_lstore (n := 75) (L' := [(7, gV b), (0, gA n0 190), (1, gJ a), (2, gV b), (4, gJ c), (5, gV v5)]) X dX12_frosts_73 (by decide) rfl rfl ?_
                  refine g_iload (n := 77) X 4 dX12_frosts_75 rfl rfl ?_
                  refine g_iconst (n := 78) X dX12_frosts_77 rfl ?_
                  refine g_isub (n := 79) (z := c - 1) X dX12_frosts_78 (by omega) rfl ?_
                  refine g_istore (n := 81) (L' := [(9, gJ (c - 1)), (7, gV b), (0, gA n0 190), (1, gJ a), (2, gV b), (4, gJ c), (5, gV v5)]) X dX12_frosts_79 (by decide) rfl rfl ?_
                  have j138 : ∀ (N153 : Nat) (v135 v136 : Int) (M137 : gM) , (-9223372036854775808 ≤ v135 ∧ v135 ≤ 9223372036854775807) → (-1 ≤ v136 ∧ v136 ≤ 9) → gI sz M137 → gC sz M137 → gFr 72057594037927936 M M137 → (∀ k : Int, 2580 ≤ k → k < 2583 → M137 191 k = M 191 k) → (v136 + 1).toNat < N153 → G p l e R_e_X12_frosts s m args below meth cd n0 D cA 10 Q 0 0 M137 sz 81 [(0, gA n0 190), (1, gJ a), (4, gJ c), (7, gV v135), (9, gJ v136)] [] := by
                    intro N153; induction N153 with
                    | zero => intro v135 v136 M137 rv135 rv136 IM137 CM137 FM137 hk hm155; exfalso; omega
                    | succ N153 ih154 =>
                      intro v135 v136 M137 rv135 rv136 IM137 CM137 FM137 hk hm155
                      refine g_iload (n := 83) X 4 dX12_frosts_81 rfl rfl ?_
                      refine g_if_lt (n := 86) (tgt := 123) X dX12_frosts_83 (by decide) (by omega) rfl (fun c156 => ?_) (fun c156 => ?_)
                      · refine g_aload_n (n := 124) X 0 dX12_frosts_123 rfl rfl rfl ?_
                        refine gg_12_1 (n := 127) (z := 191) X (by decide) (gsz hsz (by decide)) lay_190 kw_6_27 dX12_frosts_124 rfl (rf_190_1 IM137 (gsz hsz (by decide))) (by decide) ?_
                        refine g_sipush (n := 130) X dX12_frosts_127 (by decide +kernel) rfl ?_
                        refine g_iload_n (n := 131) X 1 dX12_frosts_130 rfl rfl rfl ?_
                        refine g_iadd (n := 132) (z := a + 2580) X dX12_frosts_131 (by omega) rfl ?_
                        refine g_iload (n := 134) X 2 dX12_frosts_132 rfl rfl ?_
                        refine g_iast (n := 135) X (by decide) (gsz hsz (by decide)) lay_191 (by omega) (by omega) (by decide) dX12_frosts_134 rfl ?_
                        refine G.nm (fun M157 e158 => ?_)
                        have IM157 : gI sz M157 := gI.set IM137 (rs_FMANY (k := a + 2580) (by omega)).1 (by omega) e158
                        have CM157 : gC sz M157 := gC.set CM137 (rs_FMANY (k := a + 2580) (by omega)).2.1 e158
                        refine g_iload (n := 137) X 2 dX12_frosts_135 rfl rfl ?_
                        exact hq _ _ _ _ dX12_frosts_137 ⟨by omega, IM157, CM157, (gFr.s (gFr.c gFr.rf FM137 rfl) e158 (rs_FMANY (k := a + 2580) (by omega)).2.2 rfl), ⟨by omega, Or.inr ⟨by omega, (congrFun (congrFun e158 _) _).trans (gset_eqi (by omega)), fun k k0 k1 g => (congrFun (congrFun e158 _) _).trans ((gset_ne (by omega)).trans (hk k k0 k1))⟩⟩⟩
                      · refine g_aload_n (n := 87) X 0 dX12_frosts_86 rfl rfl rfl ?_
                        refine gg_12_1 (n := 90) (z := 191) X (by decide) (gsz hsz (by decide)) lay_190 kw_6_27 dX12_frosts_87 rfl (rf_190_1 IM137 (gsz hsz (by decide))) (by decide) ?_
                        refine g_sipush (n := 93) X dX12_frosts_90 (by decide +kernel) rfl ?_
                        refine g_bipush (n := 95) X dX12_frosts_93 (by decide +kernel) rfl ?_
                        refine g_iload_n (n := 96) X 1 dX12_frosts_95 rfl rfl rfl ?_
                        refine g_imul (n := 97) (z := 10 * a) X dX12_frosts_96 rfl rfl ?_
                        refine g_iadd (n := 98) (z := 2584 + (10 * a)) X dX12_frosts_97 rfl rfl ?_
                        refine g_iload (n := 100) X 4 dX12_frosts_98 rfl rfl ?_
                        refine g_iadd (n := 101) (z := (2584 + (10 * a)) + v136) X dX12_frosts_100 rfl rfl ?_
                        refine g_lload (n := 103) X 3 dX12_frosts_101 rfl rfl ?_
                        refine g_ldc2 (n := 106) (z := 10) X dX12_frosts_103 kw_8_0 (by decide +kernel) rfl ?_
                        refine g_lremA (n := 107) X dX12_frosts_106 (by decide +kernel) rfl (fun v159 rv159 xv159 => ?_)
                        clear xv159
                        refine g_l2iA (n := 108) X dX12_frosts_107 rfl (fun v160 rv160 xv160 => ?_)
                        clear xv160
                        refine g_iast (n := 109) X (by decide) (gsz hsz (by decide)) lay_191 (by omega) (by omega) (by decide) dX12_frosts_108 rfl ?_
                        refine G.nm (fun M161 e162 => ?_)
                        have IM161 : gI sz M161 := gI.set IM137 (rs_FROW (k := (2584 + (10 * a)) + v136) (by omega)).1 (by omega) e162
                        have CM161 : gC sz M161 := gC.set CM137 (rs_FROW (k := (2584 + (10 * a)) + v136) (by omega)).2.1 e162
                        refine g_lload (n := 111) X 3 dX12_frosts_109 rfl rfl ?_
                        refine g_ldc2 (n := 114) (z := 10) X dX12_frosts_111 kw_8_0 (by decide +kernel) rfl ?_
                        refine g_ldivA (n := 115) X dX12_frosts_114 (by decide +kernel) rfl (fun v163 rv163 xv163 => ?_)
                        clear xv163
                        refine g_lstore (n := 117) (L' := [(7, gV v163), (0, gA n0 190), (1, gJ a), (4, gJ c), (9, gJ v136)]) X dX12_frosts_115 (by decide) rfl rfl ?_
                        refine g_iinc (n := 120) (w := v136 - 1) (L' := [(9, gJ (v136 - 1)), (7, gV v163), (0, gA n0 190), (1, gJ a), (4, gJ c)]) X 4 dX12_frosts_117 rfl rfl (by decide) rfl rfl ?_
                        refine g_goto (tgt := 81) X dX12_frosts_120 (by decide) ?_
                        refine G.sub (L' := [(0, gA n0 190), (1, gJ a), (4, gJ c), (7, gV v163), (9, gJ (v136 - 1))]) [2, 3, 4, 1, 0] rfl ?_
                        exact ih154 v163 (v136 - 1) M161 (by omega) (by omega) IM161 CM161 (gFr.s (gFr.c gFr.rf FM137 rfl) e162 (rs_FROW (k := (2584 + (10 * a)) + v136) (by omega)).2.2 rfl) (fun k k0 k1 => ((congrFun (congrFun e162 _) _).trans ((gset_ne (by omega)).trans (hk k k0 k1)))) (by omega)
                  refine G.sub (L' := [(0, gA n0 190), (1, gJ a), (4, gJ c), (7, gV b), (9, gJ (c - 1))]) [2, 3, 5, 1, 0] rfl ?_
                  exact j138 _ b (c - 1) M (by omega) (by omega) I C gFr.rf (fun k k0 k1 => rfl) (Nat.lt_succ_self _)
                · refine g_bipush (n := 71) X dX12_frosts_69 (by decide +kernel) rfl ?_
                  exact hq _ _ _ _ dX12_frosts_71 ⟨by omega, I, C, gFr.rf, ⟨by omega, Or.inl ⟨by omega, fun k _ _ => rfl⟩⟩⟩
          · refine g_lload (n := 33) X 4 dX12_frosts_31 rfl rfl ?_
            refine g_ldc2 (n := 36) (z := 10) X dX12_frosts_33 kw_8_0 (by decide +kernel) rfl ?_
            refine g_lmul (n := 37) (z := v5 * 10) X dX12_frosts_36 rfl rfl ?_
            refine g_lstore (n := 39) (L' := [(5, gV (v5 * 10)), (0, gA n0 190), (1, gJ a), (2, gV b), (4, gJ c), (7, gJ v6)]) X dX12_frosts_37 (by decide) rfl rfl ?_
            refine g_iinc (n := 42) (w := v6 + 1) (L' := [(7, gJ (v6 + 1)), (5, gV (v5 * 10)), (0, gA n0 190), (1, gJ a), (2, gV b), (4, gJ c)]) X 5 dX12_frosts_39 rfl rfl (by decide) rfl rfl ?_
            refine g_goto (tgt := 17) X dX12_frosts_42 (by decide) ?_
            refine G.sub (L' := [(0, gA n0 190), (1, gJ a), (2, gV b), (4, gJ c), (5, gV (v5 * 10)), (7, gJ (v6 + 1))]) [2, 3, 4, 5, 1, 0] rfl ?_
            exact ih86 (v5 * 10) (v6 + 1) (by omega) (by omega) ⟨by rw [gTen_s (by omega) (by omega)]; omega, by omega⟩ (by omega)
    refine G.sub (L' := [(0, gA n0 190), (1, gJ a), (2, gV b), (4, gJ c), (5, gV 1), (7, gJ 0)]) [2, 3, 4, 5, 1, 0] rfl ?_
    exact j8 _ 1 0 (by omega) (by omega) ⟨by decide, by omega⟩ (Nat.lt_succ_self _)
  · refine g_iconst (n := 10) X dX12_frosts_9 rfl ?_
    exact hq _ _ _ _ dX12_frosts_10 ⟨by omega, I, C, gFr.rf, ⟨by omega, Or.inl ⟨by omega, fun k _ _ => rfl⟩⟩⟩
