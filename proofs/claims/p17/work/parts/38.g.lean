abbrev R_e_X7_readWord : Room := { frames := 4, cells := 0, slots := 0, locals := 120 }
set_option maxRecDepth 100000 in
set_option maxHeartbeats 4000000 in
theorem e_X7_readWord {l : Launch} {n0 : Nat} {D : va_G} {cA : Nat → ClassId} {M : gM} (o : Int) (r_o : 87 ≤ o ∧ o ≤ 147 ∧ (o - 87) % 6 = 0) {sz : Nat} (hsz : 206 ≤ sz) (I : gI sz M) (C : gC sz M) (ht : M 159 0 = o + 1 + 1) (T : Int → Int) (hT : gTc M o = T)  : Met l yX7_readWord (gWsOf yX7_readWord cX7_readWord 5 (Option.some Jvm.ClassFile.FieldType.int)) R_e_X7_readWord (gPc n0 D cA [gA n0 159] M sz) (gQi n0 D cA sz (fun z M1 => (-1 ≤ z ∧ z ≤ 9) ∧ gI sz M1 ∧ gC sz M1 ∧ gFr 536870912 M M1 ∧ ((z = -1 ∧ gWrd T (M 159 2) = (-1, M1 159 2)) ∨ ((0 ≤ z ∧ z ≤ 9) ∧ gMt T (M 159 2) z (gWn z - 1) ∧ M1 159 2 = M 159 2 + (gWn z - 1))))) 0 0 (fun q => n0 ≤ q) := by
  refine gMetI [gA n0 159] (by decide) (Nat.le_of_ble_eq_true rfl) ⟨rfl, rfl⟩ ?_
  intro p e s m args below meth cd Q X hq
  have X : gCx p s m args meth cd n0 D cA "ParishUnion$Reader" cX7_readWord 5 := X
  show G p l e R_e_X7_readWord s m args below meth cd n0 D cA 5 Q 0 0 M sz 0 [(0, gA n0 159)] []
  obtain ⟨v1, hv1, rv1⟩ := gRd I (by decide) (gsz hsz (by decide)) rc_159_2.1
  obtain ⟨v2, hv2, rv2⟩ := gRd I (by decide) (gsz hsz (by decide)) rc_159_1.1
  refine g_iconst (n := 1) X dX7_readWord_0 rfl ?_
  refine g_istore_n (n := 2) (L' := [(1, gJ 0), (0, gA n0 159)]) X dX7_readWord_1 rfl (by decide) rfl rfl ?_
  refine g_iconst (n := 3) X dX7_readWord_2 rfl ?_
  refine g_istore_n (n := 4) (L' := [(2, gJ 0), (1, gJ 0), (0, gA n0 159)]) X dX7_readWord_3 rfl (by decide) rfl rfl ?_
  have j6 : ∀ (N91 : Nat) (v3 v4 : Int) , (0 ≤ v3 ∧ v3 ≤ 6) → (0 ≤ v4 ∧ v4 ≤ 10) → (M 159 2 + v3 ≤ 150) → (gLw T v1 v4 v3) → (10 - v4).toNat < N91 → G p l e R_e_X7_readWord s m args below meth cd n0 D cA 5 Q 0 0 M sz 4 [(0, gA n0 159), (1, gJ v3), (2, gJ v4)] [] := by
    intro N91; induction N91 with
    | zero => intro v3 v4 rv3 rv4 hl hW hm93; exfalso; omega
    | succ N91 ih92 =>
      intro v3 v4 rv3 rv4 hl hW hm93
      refine g_iload_n (n := 5) X 2 dX7_readWord_4 rfl rfl rfl ?_
      refine g_bipush (n := 7) X dX7_readWord_5 (by decide +kernel) rfl ?_
      refine g_icmp_ge (n := 10) (tgt := 103) X dX7_readWord_7 (by decide) (by omega) (by omega) rfl (fun c94 => ?_) (fun c94 => ?_)
      · refine g_aload_n (n := 104) X 0 dX7_readWord_103 rfl rfl rfl ?_
        refine g_dup (n := 105) X dX7_readWord_104 rfl rfl ?_
        refine gg_7_2 (n := 108) (z := v1) X (by decide) (gsz hsz (by decide)) lay_159 kw_2_213 dX7_readWord_105 rfl hv1 ?_
        refine g_iload_n (n := 109) X 1 dX7_readWord_108 rfl rfl rfl ?_
        refine g_iadd (n := 110) (z := v1 + v3) X dX7_readWord_109 rfl rfl ?_
        refine gp_7_2 (n := 113) X (by decide) (gsz hsz (by decide)) lay_159 kw_2_213 dX7_readWord_110 rfl ?_
        refine G.nm (fun M95 e96 => ?_)
        have IM95 : gI sz M95 := gI.set I rc_159_2.1 (by omega) e96
        have CM95 : gC sz M95 := gC.set C rc_159_2.2.1 e96
        refine g_iconst (n := 114) X dX7_readWord_113 rfl ?_
        exact hq _ _ _ _ dX7_readWord_114 ⟨by omega, IM95, CM95, (gFr.s gFr.rf e96 rc_159_2.2.2 rfl), (by have zb2 : M 159 2 = v1 := hv1; have ze2 : M95 159 2 = v1 + v3 := ((congrFun (congrFun e96 _) _).trans (gset_eq _ _ _ _)); rw [zb2]; refine Or.inl ⟨rfl, ?_⟩; rw [gLw.fin hW (by omega)]; exact congrArg (fun x => ((-1 : Int), x)) (by omega))⟩
      · refine g_iload_n (n := 11) X 2 dX7_readWord_10 rfl rfl rfl ?_
        refine g_callSs (n := 14) (As := [gJ v4]) (rest := []) (cs1 := 0) (ss1 := 0) X (c_X7_nameOf v4 (by omega) (by omega)) okX7_nameOf kw_3_222 kw_3_223 ⟨rfl, rfl⟩ ⟨Nat.le_of_ble_eq_true rfl, Nat.le_of_ble_eq_true rfl⟩ rfl rfl (Nat.le_of_ble_eq_true rfl) ⟨Nat.le_of_ble_eq_true rfl, Nat.le_of_ble_eq_true rfl⟩ rfl rfl dX7_readWord_11 rfl (fun v97 M98 P99 => ?_)
        obtain ⟨rfl, xv97⟩ := P99
        have zv97 : v97 = v4 := by omega
        have lv97 : gSL v97 = gWn v4 - 1 := by rw [zv97]; exact gSLc (by omega)
        have wv97 := gWn_r (k := v4) (by omega)
        refine g_astore_n (n := 15) (L' := [(3, .ref (cA (100 + (v97).toNat))), (0, gA n0 159), (1, gJ v3), (2, gJ v4)]) X dX7_readWord_14 rfl (by decide) rfl rfl ?_
        refine g_iconst (n := 16) X dX7_readWord_15 rfl ?_
        refine g_istore (n := 18) (L' := [(4, gJ 0), (3, .ref (cA (100 + (v97).toNat))), (0, gA n0 159), (1, gJ v3), (2, gJ v4)]) X dX7_readWord_16 (by decide) rfl rfl ?_
        have j102 : ∀ (N139 : Nat) (v100 : Int) , (0 ≤ v100 ∧ v100 ≤ 6) → (M 159 2 + v100 ≤ 150) → (gMt T v1 v4 v100) → (v100 ≤ gSL v97) → (6 - v100).toNat < N139 → G p l e R_e_X7_readWord s m args below meth cd n0 D cA 5 Q 0 0 M sz 18 [(0, gA n0 159), (1, gJ v3), (2, gJ v4), (3, .ref (cA (100 + (v97).toNat))), (4, gJ v100)] [] := by
          intro N139; induction N139 with
          | zero => intro v100 rv100 hs hM hk hm141; exfalso; omega
          | succ N139 ih140 =>
            intro v100 rv100 hs hM hk hm141
            refine g_iload (n := 20) X 4 dX7_readWord_18 rfl rfl ?_
            refine g_aload_n (n := 21) X 3 dX7_readWord_20 rfl rfl rfl ?_
            obtain ⟨q142, hq142⟩ := gSO_at (z := v97) (by omega)
            refine g_callSt (n := 24) (As := []) (rest := [gJ v100]) (cs1 := 0) (ss1 := 0) X (v97).toNat hq142 (s_J_len v97 (by omega)) okJ_len kw_3_235 ⟨kw_3_236, kw_3_237⟩ ⟨rfl, rfl⟩ ⟨Nat.le_of_ble_eq_true rfl, Nat.le_of_ble_eq_true rfl⟩ rfl rfl (Nat.le_of_ble_eq_true rfl) ⟨Nat.le_of_ble_eq_true rfl, Nat.le_of_ble_eq_true rfl⟩ rfl rfl dX7_readWord_21 rfl (fun v143 M144 P145 => ?_)
            obtain ⟨rfl, rv143, xv143⟩ := P145
            refine g_icmp_ge (n := 27) (tgt := 68) X dX7_readWord_24 (by decide) (by omega) (by omega) rfl (fun c146 => ?_) (fun c146 => ?_)
            · refine g_iload (n := 70) X 4 dX7_readWord_68 rfl rfl ?_
              refine g_aload_n (n := 71) X 3 dX7_readWord_70 rfl rfl rfl ?_
              obtain ⟨q147, hq147⟩ := gSO_at (z := v97) (by omega)
              refine g_callSt (n := 74) (As := []) (rest := [gJ v100]) (cs1 := 0) (ss1 := 0) X (v97).toNat hq147 (s_J_len v97 (by omega)) okJ_len kw_3_235 ⟨kw_3_236, kw_3_237⟩ ⟨rfl, rfl⟩ ⟨Nat.le_of_ble_eq_true rfl, Nat.le_of_ble_eq_true rfl⟩ rfl rfl (Nat.le_of_ble_eq_true rfl) ⟨Nat.le_of_ble_eq_true rfl, Nat.le_of_ble_eq_true rfl⟩ rfl rfl dX7_readWord_71 rfl (fun v148 M149 P150 => ?_)
              obtain ⟨rfl, rv148, xv148⟩ := P150
              refine g_icmp_ne (n := 77) (tgt := 90) X dX7_readWord_74 (by decide) (by omega) (by omega) rfl (fun c151 => ?_) (fun c151 => ?_)
              · refine g_iload_n (n := 91) X 1 dX7_readWord_90 rfl rfl rfl ?_
                refine g_iload (n := 93) X 4 dX7_readWord_91 rfl rfl ?_
                refine g_mmax (n := 96) X kw_4_43 kw_3_153 kw_1_14 kw_3_154 (by omega) (by omega) (Nat.le_of_ble_eq_true rfl) (Nat.le_of_ble_eq_true rfl) (Nat.le_of_ble_eq_true rfl) (Nat.le_of_ble_eq_true rfl) dX7_readWord_93 rfl (fun x152 hx152 => ?_)
                have rx152 : 0 ≤ x152 ∧ x152 ≤ 6 := by omega
                refine g_istore_n (n := 97) (L' := [(1, gJ x152), (0, gA n0 159), (2, gJ v4), (3, .ref (cA (100 + (v97).toNat))), (4, gJ v100)]) X dX7_readWord_96 rfl (by decide) rfl rfl ?_
                refine g_iinc (n := 100) (w := v4 + 1) (L' := [(2, gJ (v4 + 1)), (1, gJ x152), (0, gA n0 159), (3, .ref (cA (100 + (v97).toNat))), (4, gJ v100)]) X 2 dX7_readWord_97 rfl rfl (by decide) rfl rfl ?_
                refine g_goto (tgt := 4) X dX7_readWord_100 (by decide) ?_
                refine G.sub (L' := [(0, gA n0 159), (1, gJ x152), (2, gJ (v4 + 1))]) [2, 1, 0] rfl ?_
                exact ih92 x152 (v4 + 1) (by omega) (by omega) (by have q2 := hv1; omega) (by exact gLw.step hW (by omega) (by omega) hM (by first | (exfalso; omega)) (by omega) (by omega)) (by omega)
              · refine g_aload_n (n := 78) X 0 dX7_readWord_77 rfl rfl rfl ?_
                refine g_dup (n := 79) X dX7_readWord_78 rfl rfl ?_
                refine gg_7_2 (n := 82) (z := v1) X (by decide) (gsz hsz (by decide)) lay_159 kw_2_213 dX7_readWord_79 rfl hv1 ?_
                refine g_iload (n := 84) X 4 dX7_readWord_82 rfl rfl ?_
                refine g_iadd (n := 85) (z := v1 + v100) X dX7_readWord_84 rfl rfl ?_
                refine gp_7_2 (n := 88) X (by decide) (gsz hsz (by decide)) lay_159 kw_2_213 dX7_readWord_85 rfl ?_
                refine G.nm (fun M153 e154 => ?_)
                have IM153 : gI sz M153 := gI.set I rc_159_2.1 (by omega) e154
                have CM153 : gC sz M153 := gC.set C rc_159_2.2.1 e154
                refine g_iload_n (n := 89) X 2 dX7_readWord_88 rfl rfl rfl ?_
                exact hq _ _ _ _ dX7_readWord_89 ⟨by omega, IM153, CM153, (gFr.s gFr.rf e154 rc_159_2.2.2 rfl), (by have zb2 : M 159 2 = v1 := hv1; have ze2 : M153 159 2 = v1 + v100 := ((congrFun (congrFun e154 _) _).trans (gset_eq _ _ _ _)); rw [zb2]; refine Or.inr ⟨by omega, ?_, by omega⟩; rw [show gWn v4 - 1 = v100 by omega]; exact hM)⟩
            · refine g_aload_n (n := 28) X 0 dX7_readWord_27 rfl rfl rfl ?_
              refine gg_7_2 (n := 31) (z := v1) X (by decide) (gsz hsz (by decide)) lay_159 kw_2_213 dX7_readWord_28 rfl hv1 ?_
              refine g_iload (n := 33) X 4 dX7_readWord_31 rfl rfl ?_
              refine g_iadd (n := 34) (z := v1 + v100) X dX7_readWord_33 rfl rfl ?_
              refine g_aload_n (n := 35) X 0 dX7_readWord_34 rfl rfl rfl ?_
              refine gg_7_1 (n := 38) (z := v2) X (by decide) (gsz hsz (by decide)) lay_159 kw_2_212 dX7_readWord_35 rfl hv2 ?_
              refine g_icmp_ge (n := 41) (tgt := 68) X dX7_readWord_38 (by decide) (by omega) (by omega) rfl (fun c155 => ?_) (fun c155 => ?_)
              · refine g_iload (n := 70) X 4 dX7_readWord_68 rfl rfl ?_
                refine g_aload_n (n := 71) X 3 dX7_readWord_70 rfl rfl rfl ?_
                obtain ⟨q156, hq156⟩ := gSO_at (z := v97) (by omega)
                refine g_callSt (n := 74) (As := []) (rest := [gJ v100]) (cs1 := 0) (ss1 := 0) X (v97).toNat hq156 (s_J_len v97 (by omega)) okJ_len kw_3_235 ⟨kw_3_236, kw_3_237⟩ ⟨rfl, rfl⟩ ⟨Nat.le_of_ble_eq_true rfl, Nat.le_of_ble_eq_true rfl⟩ rfl rfl (Nat.le_of_ble_eq_true rfl) ⟨Nat.le_of_ble_eq_true rfl, Nat.le_of_ble_eq_true rfl⟩ rfl rfl dX7_readWord_71 rfl (fun v157 M158 P159 => ?_)
                obtain ⟨rfl, rv157, xv157⟩ := P159
                refine g_icmp_ne (n := 77) (tgt := 90) X dX7_readWord_74 (by decide) (by omega) (by omega) rfl (fun c160 => ?_) (fun c160 => ?_)
                · refine g_iload_n (n := 91) X 1 dX7_readWord_90 rfl rfl rfl ?_
                  refine g_iload (n := 93) X 4 dX7_readWord_91 rfl rfl ?_
                  refine g_mmax (n := 96) X kw_4_43 kw_3_153 kw_1_14 kw_3_154 (by omega) (by omega) (Nat.le_of_ble_eq_true rfl) (Nat.le_of_ble_eq_true rfl) (Nat.le_of_ble_eq_true rfl) (Nat.le_of_ble_eq_true rfl) dX7_readWord_93 rfl (fun x161 hx161 => ?_)
                  have rx161 : 0 ≤ x161 ∧ x161 ≤ 6 := by omega
                  refine g_istore_n (n := 97) (L' := [(1, gJ x161), (0, gA n0 159), (2, gJ v4), (3, .ref (cA (100 + (v97).toNat))), (4, gJ v100)]) X dX7_readWord_96 rfl (by decide) rfl rfl ?_
                  refine g_iinc (n := 100) (w := v4 + 1) (L' := [(2, gJ (v4 + 1)), (1, gJ x161), (0, gA n0 159), (3, .ref (cA (100 + (v97).toNat))), (4, gJ v100)]) X 2 dX7_readWord_97 rfl rfl (by decide) rfl rfl ?_
                  refine g_goto (tgt := 4) X dX7_readWord_100 (by decide) ?_
                  refine G.sub (L' := [(0, gA n0 159), (1, gJ x161), (2, gJ (v4 + 1))]) [2, 1, 0] rfl ?_
                  exact ih92 x161 (v4 + 1) (by omega) (by omega) (by have q2 := hv1; omega) (by exact gLw.step hW (by omega) (by omega) hM (by first | (have t : T (v1 + v100) = -1 := gTc_out hT (show M 159 1 = v2 from hv2) (by omega); have hc := gWc_r (k := v4) (j := v100) (by omega) (by omega); omega) | (exfalso; omega)) (by omega) (by omega)) (by omega)
                · refine g_aload_n (n := 78) X 0 dX7_readWord_77 rfl rfl rfl ?_
                  refine g_dup (n := 79) X dX7_readWord_78 rfl rfl ?_
                  refine gg_7_2 (n := 82) (z := v1) X (by decide) (gsz hsz (by decide)) lay_159 kw_2_213 dX7_readWord_79 rfl hv1 ?_
                  refine g_iload (n := 84) X 4 dX7_readWord_82 rfl rfl ?_
                  refine g_iadd (n := 85) (z := v1 + v100) X dX7_readWord_84 rfl rfl ?_
                  refine gp_7_2 (n := 88) X (by decide) (gsz hsz (by decide)) lay_159 kw_2_213 dX7_readWord_85 rfl ?_
                  refine G.nm (fun M162 e163 => ?_)
                  have IM162 : gI sz M162 := gI.set I rc_159_2.1 (by omega) e163
                  have CM162 : gC sz M162 := gC.set C rc_159_2.2.1 e163
                  refine g_iload_n (n := 89) X 2 dX7_readWord_88 rfl rfl rfl ?_
                  exact hq _ _ _ _ dX7_readWord_89 ⟨by omega, IM162, CM162, (gFr.s gFr.rf e163 rc_159_2.2.2 rfl), (by have zb2 : M 159 2 = v1 := hv1; have ze2 : M162 159 2 = v1 + v100 := ((congrFun (congrFun e163 _) _).trans (gset_eq _ _ _ _)); rw [zb2]; refine Or.inr ⟨by omega, ?_, by omega⟩; rw [show gWn v4 - 1 = v100 by omega]; exact hM)⟩
              · refine g_aload_n (n := 42) X 0 dX7_readWord_41 rfl rfl rfl ?_
                refine gg_7_0 (n := 45) (z := o + 1) X (by decide) (gsz hsz (by decide)) lay_159 kw_2_211 dX7_readWord_42 rfl ht (by omega) ?_
                refine g_aload_n (n := 46) X 0 dX7_readWord_45 rfl rfl rfl ?_
                refine gg_7_2 (n := 49) (z := v1) X (by decide) (gsz hsz (by decide)) lay_159 kw_2_213 dX7_readWord_46 rfl hv1 ?_
                refine g_iload (n := 51) X 4 dX7_readWord_49 rfl rfl ?_
                refine g_iadd (n := 52) (z := v1 + v100) X dX7_readWord_51 rfl rfl ?_
                obtain ⟨v164, hv164, rv164⟩ := gRd I (A1o0 r_o) (A1osz hsz r_o) (rAA_1 r_o (v1 + v100)).1
                refine g_bald2 (n := 53) (v := v164) X (A1o0 r_o) (A1osz hsz r_o) (lay2_A1 r_o) (by omega) (by omega) (by decide) dX7_readWord_52 rfl hv164 ?_
                refine g_aload_n (n := 54) X 3 dX7_readWord_53 rfl rfl rfl ?_
                refine g_iload (n := 56) X 4 dX7_readWord_54 rfl rfl ?_
                obtain ⟨q165, hq165⟩ := gSO_at (z := v97) (by omega)
                refine g_callSt (n := 59) (As := [gJ v100]) (rest := [gJ v164]) (cs1 := 0) (ss1 := 0) X (v97).toNat hq165 (s_J_chr v97 (by omega) v100 (by omega) (by omega)) okJ_chr kw_4_5 ⟨kw_4_6, kw_4_7⟩ ⟨rfl, rfl⟩ ⟨Nat.le_of_ble_eq_true rfl, Nat.le_of_ble_eq_true rfl⟩ rfl rfl (Nat.le_of_ble_eq_true rfl) ⟨Nat.le_of_ble_eq_true rfl, Nat.le_of_ble_eq_true rfl⟩ rfl rfl dX7_readWord_56 rfl (fun v166 M167 P168 => ?_)
                obtain ⟨rfl, rv166, xv166⟩ := P168
                refine g_icmp_ne (n := 62) (tgt := 68) X dX7_readWord_59 (by decide) (by omega) (by omega) rfl (fun c169 => ?_) (fun c169 => ?_)
                · refine g_iload (n := 70) X 4 dX7_readWord_68 rfl rfl ?_
                  refine g_aload_n (n := 71) X 3 dX7_readWord_70 rfl rfl rfl ?_
                  obtain ⟨q170, hq170⟩ := gSO_at (z := v97) (by omega)
                  refine g_callSt (n := 74) (As := []) (rest := [gJ v100]) (cs1 := 0) (ss1 := 0) X (v97).toNat hq170 (s_J_len v97 (by omega)) okJ_len kw_3_235 ⟨kw_3_236, kw_3_237⟩ ⟨rfl, rfl⟩ ⟨Nat.le_of_ble_eq_true rfl, Nat.le_of_ble_eq_true rfl⟩ rfl rfl (Nat.le_of_ble_eq_true rfl) ⟨Nat.le_of_ble_eq_true rfl, Nat.le_of_ble_eq_true rfl⟩ rfl rfl dX7_readWord_71 rfl (fun v171 M172 P173 => ?_)
                  obtain ⟨rfl, rv171, xv171⟩ := P173
                  refine g_icmp_ne (n := 77) (tgt := 90) X dX7_readWord_74 (by decide) (by omega) (by omega) rfl (fun c174 => ?_) (fun c174 => ?_)
                  · refine g_iload_n (n := 91) X 1 dX7_readWord_90 rfl rfl rfl ?_
                    refine g_iload (n := 93) X 4 dX7_readWord_91 rfl rfl ?_
                    refine g_mmax (n := 96) X kw_4_43 kw_3_153 kw_1_14 kw_3_154 (by omega) (by omega) (Nat.le_of_ble_eq_true rfl) (Nat.le_of_ble_eq_true rfl) (Nat.le_of_ble_eq_true rfl) (Nat.le_of_ble_eq_true rfl) dX7_readWord_93 rfl (fun x175 hx175 => ?_)
                    have rx175 : 0 ≤ x175 ∧ x175 ≤ 6 := by omega
                    refine g_istore_n (n := 97) (L' := [(1, gJ x175), (0, gA n0 159), (2, gJ v4), (3, .ref (cA (100 + (v97).toNat))), (4, gJ v100)]) X dX7_readWord_96 rfl (by decide) rfl rfl ?_
                    refine g_iinc (n := 100) (w := v4 + 1) (L' := [(2, gJ (v4 + 1)), (1, gJ x175), (0, gA n0 159), (3, .ref (cA (100 + (v97).toNat))), (4, gJ v100)]) X 2 dX7_readWord_97 rfl rfl (by decide) rfl rfl ?_
                    refine g_goto (tgt := 4) X dX7_readWord_100 (by decide) ?_
                    refine G.sub (L' := [(0, gA n0 159), (1, gJ x175), (2, gJ (v4 + 1))]) [2, 1, 0] rfl ?_
                    exact ih92 x175 (v4 + 1) (by omega) (by omega) (by have q2 := hv1; omega) (by exact gLw.step hW (by omega) (by omega) hM (by first | (have t : T (v1 + v100) = v164 % 256 := gTc_in hT (show M 159 1 = v2 from hv2) (by omega) (show M (o + 1) (v1 + v100) = v164 from hv164); have hc := gSCc (k := v4) (j := v100) (by omega) (by omega); have xc := xv166; rw [zv97] at xc; omega) | (have t : T (v1 + v100) = -1 := gTc_out hT (show M 159 1 = v2 from hv2) (by omega); have hc := gWc_r (k := v4) (j := v100) (by omega) (by omega); omega) | (exfalso; omega)) (by omega) (by omega)) (by omega)
                  · refine g_aload_n (n := 78) X 0 dX7_readWord_77 rfl rfl rfl ?_
                    refine g_dup (n := 79) X dX7_readWord_78 rfl rfl ?_
                    refine gg_7_2 (n := 82) (z := v1) X (by decide) (gsz hsz (by decide)) lay_159 kw_2_213 dX7_readWord_79 rfl hv1 ?_
                    refine g_iload (n := 84) X 4 dX7_readWord_82 rfl rfl ?_
                    refine g_iadd (n := 85) (z := v1 + v100) X dX7_readWord_84 rfl rfl ?_
                    refine gp_7_2 (n := 88) X (by decide) (gsz hsz (by decide)) lay_159 kw_2_213 dX7_readWord_85 rfl ?_
                    refine G.nm (fun M176 e177 => ?_)
                    have IM176 : gI sz M176 := gI.set I rc_159_2.1 (by omega) e177
                    have CM176 : gC sz M176 := gC.set C rc_159_2.2.1 e177
                    refine g_iload_n (n := 89) X 2 dX7_readWord_88 rfl rfl rfl ?_
                    exact hq _ _ _ _ dX7_readWord_89 ⟨by omega, IM176, CM176, (gFr.s gFr.rf e177 rc_159_2.2.2 rfl), (by have zb2 : M 159 2 = v1 := hv1; have ze2 : M176 159 2 = v1 + v100 := ((congrFun (congrFun e177 _) _).trans (gset_eq _ _ _ _)); rw [zb2]; refine Or.inr ⟨by omega, ?_, by omega⟩; rw [show gWn v4 - 1 = v100 by omega]; exact hM)⟩
                · refine g_iinc (n := 65) (w := v100 + 1) (L' := [(4, gJ (v100 + 1)), (0, gA n0 159), (1, gJ v3), (2, gJ v4), (3, .ref (cA (100 + (v97).toNat)))]) X 4 dX7_readWord_62 rfl rfl (by decide) rfl rfl ?_
                  refine g_goto (tgt := 18) X dX7_readWord_65 (by decide) ?_
                  refine G.sub (L' := [(0, gA n0 159), (1, gJ v3), (2, gJ v4), (3, .ref (cA (100 + (v97).toNat))), (4, gJ (v100 + 1))]) [1, 2, 3, 4, 0] rfl ?_
                  exact ih140 (v100 + 1) (by omega) (by have q2 := hv1; omega) (by have t : T (v1 + v100) = v164 % 256 := gTc_in hT (show M 159 1 = v2 from hv2) (by omega) (show M (o + 1) (v1 + v100) = v164 from hv164); have hc := gSCc (k := v4) (j := v100) (by omega) (by omega); have xc := xv166; rw [zv97] at xc; exact gMt_s (c := v166) hM (by omega) (by omega)) (by omega) (by omega)
        refine G.sub (L' := [(0, gA n0 159), (1, gJ v3), (2, gJ v4), (3, .ref (cA (100 + (v97).toNat))), (4, gJ 0)]) [2, 3, 4, 1, 0] rfl ?_
        exact j102 _ 0 (by omega) (by have q2 := hv1; omega) gMt_0 (by omega) (Nat.lt_succ_self _)
  refine G.sub (L' := [(0, gA n0 159), (1, gJ 0), (2, gJ 0)]) [2, 1, 0] rfl ?_
  exact j6 _ 0 0 (by omega) (by omega) (by have q2 := hv1; omega) gLw_0 (Nat.lt_succ_self _)
abbrev R_e_X7_readPart : Room := { frames := 5, cells := 0, slots := 0, locals := 107 }
set_option maxRecDepth 100000 in
set_option maxHeartbeats 4000000 in
theorem e_X7_readPart {l : Launch} {n0 : Nat} {D : va_G} {cA : Nat → ClassId} {M : gM} (a : Int) (r_a : 0 ≤ a ∧ a ≤ 9) (o : Int) (r_o : 87 ≤ o ∧ o ≤ 147 ∧ (o - 87) % 6 = 0) {sz : Nat} (hsz : 206 ≤ sz) (I : gI sz M) (C : gC sz M) (ht : M 159 0 = o + 1 + 1) (T : Int → Int) (hT : gTc M o = T)  : Met l yX7_readPart (gWsOf yX7_readPart cX7_readPart 2 (Option.some Jvm.ClassFile.FieldType.int)) R_e_X7_readPart (gPc n0 D cA [gA n0 159, gJ a] M sz) (gQi n0 D cA sz (fun z M1 => (-1 ≤ z ∧ z ≤ 9999) ∧ gI sz M1 ∧ gC sz M1 ∧ gFr 536870912 M M1 ∧ (((z = -1 ∧ gVal T a (M 159 2) = (-1, M1 159 2)) ∨ (0 ≤ z ∧ gVal T a (M 159 2) = (z, M1 159 2))) ∧ (a = 9 → z ≤ 3)))) 0 0 (fun q => n0 ≤ q) := by
  refine gMetI [gA n0 159, gJ a] (by decide) (Nat.le_of_ble_eq_true rfl) ⟨rfl, rfl⟩ ?_
  intro p e s m args below meth cd Q X hq
  have X : gCx p s m args meth cd n0 D cA "ParishUnion$Reader" cX7_readPart 2 := X
  show G p l e R_e_X7_readPart s m args below meth cd n0 D cA 2 Q 0 0 M sz 0 [(0, gA n0 159), (1, gJ a)] []
  obtain ⟨v1, hv1, rv1⟩ := gRd I (by decide) (gsz hsz (by decide)) rc_159_2.1
  obtain ⟨v2, hv2, rv2⟩ := gRd I (by decide) (gsz hsz (by decide)) rc_159_1.1
  refine g_iload_n (n := 1) X 1 dX7_readPart_0 rfl rfl rfl ?_
  by_cases c3 : a = 5
  · refine g_tableIn (tgt := 36) X 0 dX7_readPart_1 (by omega) (by omega) (by omega) (by omega) rfl (by decide) ?_
    refine g_aload_n (n := 37) X 0 dX7_readPart_36 rfl rfl rfl ?_
    refine g_ldcS (n := 39) X 10 rfl dX7_readPart_37 rfl ?_
    refine g_callVi (n := 42) (As := [.ref (cA (100 + 10))]) (rest := []) (cs1 := 0) (ss1 := 0) X (e_X7_readSign 10 (by omega) o r_o hsz I C ht T hT) okX7_readSign kw_4_53 ⟨kw_4_55, kw_0_11⟩ ⟨rfl, rfl⟩ ⟨Nat.le_of_ble_eq_true rfl, Nat.le_of_ble_eq_true rfl⟩ rfl (by decide) (gsz hsz (by decide)) lay_159 rfl rfl (Nat.le_of_ble_eq_true rfl) ⟨Nat.le_of_ble_eq_true rfl, Nat.le_of_ble_eq_true rfl⟩ rfl rfl dX7_readPart_39 rfl (fun v4 M5 P6 => ?_)
    obtain ⟨rv4, IM5, CM5, FM5, xM5⟩ := P6
    rw [show M 159 2 = v1 from hv1] at xM5
    obtain ⟨v7, hv7, rv7⟩ := gRd IM5 (by decide) (gsz hsz (by decide)) rc_159_2.1
    rw [hv7] at xM5
    have yM5 := gSgn_10 xM5.1
    have gM5 : v4 ≤ 1 := by omega
    exact hq _ _ _ _ dX7_readPart_42 ⟨by omega, IM5, CM5, (gFr.c gFr.rf FM5 rfl), ⟨(by have zb2 : M 159 2 = v1 := hv1; have ze2 : M5 159 2 = v7 := hv7; rw [zb2]; unfold gVal; rw [if_pos (by omega)]; rcases yM5 with ⟨u1, u2, u3⟩ | ⟨u1, u2⟩ | ⟨u1, u2⟩; (rw [if_neg u2, if_neg u3]; exact Or.inl ⟨by omega, by rw [(by omega : M5 159 2 = v1)]⟩); (rw [if_pos u2]; exact Or.inr ⟨by omega, by rw [(by omega : M5 159 2 = v1 + 1), show v4 = 0 by omega]⟩); (rw [if_neg (by omega), if_pos u2]; exact Or.inr ⟨by omega, by rw [(by omega : M5 159 2 = v1 + 1), show v4 = 1 by omega]⟩)), (fun q => by omega)⟩⟩
  by_cases c8 : a = 6
  · refine g_tableIn (tgt := 36) X 1 dX7_readPart_1 (by omega) (by omega) (by omega) (by omega) rfl (by decide) ?_
    refine g_aload_n (n := 37) X 0 dX7_readPart_36 rfl rfl rfl ?_
    refine g_ldcS (n := 39) X 10 rfl dX7_readPart_37 rfl ?_
    refine g_callVi (n := 42) (As := [.ref (cA (100 + 10))]) (rest := []) (cs1 := 0) (ss1 := 0) X (e_X7_readSign 10 (by omega) o r_o hsz I C ht T hT) okX7_readSign kw_4_53 ⟨kw_4_55, kw_0_11⟩ ⟨rfl, rfl⟩ ⟨Nat.le_of_ble_eq_true rfl, Nat.le_of_ble_eq_true rfl⟩ rfl (by decide) (gsz hsz (by decide)) lay_159 rfl rfl (Nat.le_of_ble_eq_true rfl) ⟨Nat.le_of_ble_eq_true rfl, Nat.le_of_ble_eq_true rfl⟩ rfl rfl dX7_readPart_39 rfl (fun v9 M10 P11 => ?_)
    obtain ⟨rv9, IM10, CM10, FM10, xM10⟩ := P11
    rw [show M 159 2 = v1 from hv1] at xM10
    obtain ⟨v12, hv12, rv12⟩ := gRd IM10 (by decide) (gsz hsz (by decide)) rc_159_2.1
    rw [hv12] at xM10
    have yM10 := gSgn_10 xM10.1
    have gM10 : v9 ≤ 1 := by omega
    exact hq _ _ _ _ dX7_readPart_42 ⟨by omega, IM10, CM10, (gFr.c gFr.rf FM10 rfl), ⟨(by have zb2 : M 159 2 = v1 := hv1; have ze2 : M10 159 2 = v12 := hv12; rw [zb2]; unfold gVal; rw [if_pos (by omega)]; rcases yM10 with ⟨u1, u2, u3⟩ | ⟨u1, u2⟩ | ⟨u1, u2⟩; (rw [if_neg u2, if_neg u3]; exact Or.inl ⟨by omega, by rw [(by omega : M10 159 2 = v1)]⟩); (rw [if_pos u2]; exact Or.inr ⟨by omega, by rw [(by omega : M10 159 2 = v1 + 1), show v9 = 0 by omega]⟩); (rw [if_neg (by omega), if_pos u2]; exact Or.inr ⟨by omega, by rw [(by omega : M10 159 2 = v1 + 1), show v9 = 1 by omega]⟩)), (fun q => by omega)⟩⟩
  by_cases c13 : a = 7
  · refine g_tableIn (tgt := 43) X 2 dX7_readPart_1 (by omega) (by omega) (by omega) (by omega) rfl (by decide) ?_
    refine g_aload_n (n := 44) X 0 dX7_readPart_43 rfl rfl rfl ?_
    refine g_ldcS (n := 46) X 11 rfl dX7_readPart_44 rfl ?_
    refine g_callVi (n := 49) (As := [.ref (cA (100 + 11))]) (rest := []) (cs1 := 0) (ss1 := 0) X (e_X7_readSign 11 (by omega) o r_o hsz I C ht T hT) okX7_readSign kw_4_53 ⟨kw_4_55, kw_0_11⟩ ⟨rfl, rfl⟩ ⟨Nat.le_of_ble_eq_true rfl, Nat.le_of_ble_eq_true rfl⟩ rfl (by decide) (gsz hsz (by decide)) lay_159 rfl rfl (Nat.le_of_ble_eq_true rfl) ⟨Nat.le_of_ble_eq_true rfl, Nat.le_of_ble_eq_true rfl⟩ rfl rfl dX7_readPart_46 rfl (fun v14 M15 P16 => ?_)
    obtain ⟨rv14, IM15, CM15, FM15, xM15⟩ := P16
    rw [show M 159 2 = v1 from hv1] at xM15
    obtain ⟨v17, hv17, rv17⟩ := gRd IM15 (by decide) (gsz hsz (by decide)) rc_159_2.1
    rw [hv17] at xM15
    have yM15 := gSgn_11 xM15.1
    have gM15 : v14 ≤ 2 := by omega
    exact hq _ _ _ _ dX7_readPart_49 ⟨by omega, IM15, CM15, (gFr.c gFr.rf FM15 rfl), ⟨(by have zb2 : M 159 2 = v1 := hv1; have ze2 : M15 159 2 = v17 := hv17; rw [zb2]; unfold gVal; rw [if_neg (by omega), if_pos (by omega)]; rcases yM15 with ⟨u1, u2, u3, u4⟩ | ⟨u1, u2⟩ | ⟨u1, u2⟩ | ⟨u1, u2⟩; (rw [if_neg u2, if_neg u3, if_neg u4]; exact Or.inl ⟨by omega, by rw [(by omega : M15 159 2 = v1)]⟩); (rw [if_pos u2]; exact Or.inr ⟨by omega, by rw [(by omega : M15 159 2 = v1 + 1), show v14 = 0 by omega]⟩); (rw [if_neg (by omega), if_pos u2]; exact Or.inr ⟨by omega, by rw [(by omega : M15 159 2 = v1 + 1), show v14 = 1 by omega]⟩); (rw [if_neg (by omega), if_neg (by omega), if_pos u2]; exact Or.inr ⟨by omega, by rw [(by omega : M15 159 2 = v1 + 1), show v14 = 2 by omega]⟩)), (fun q => by omega)⟩⟩
  by_cases c18 : a = 8
  · refine g_tableIn (tgt := 57) X 3 dX7_readPart_1 (by omega) (by omega) (by omega) (by omega) rfl (by decide) ?_
    refine g_aload_n (n := 58) X 0 dX7_readPart_57 rfl rfl rfl ?_
    refine g_iconst (n := 59) X dX7_readPart_58 rfl ?_
    refine g_callVi (n := 62) (As := [gJ 4]) (rest := []) (cs1 := 0) (ss1 := 0) X (e_X7_readNumber 4 (by omega) o r_o hsz I C ht T hT) okX7_readNumber kw_4_59 ⟨kw_4_61, kw_0_12⟩ ⟨rfl, rfl⟩ ⟨Nat.le_of_ble_eq_true rfl, Nat.le_of_ble_eq_true rfl⟩ rfl (by decide) (gsz hsz (by decide)) lay_159 rfl rfl (Nat.le_of_ble_eq_true rfl) ⟨Nat.le_of_ble_eq_true rfl, Nat.le_of_ble_eq_true rfl⟩ rfl rfl dX7_readPart_59 rfl (fun v19 M20 P21 => ?_)
    obtain ⟨rv19, IM20, CM20, FM20, xM20⟩ := P21
    rw [show M 159 2 = v1 from hv1] at xM20
    obtain ⟨v22, hv22, rv22⟩ := gRd IM20 (by decide) (gsz hsz (by decide)) rc_159_2.1
    rw [hv22] at xM20
    exact hq _ _ _ _ dX7_readPart_62 ⟨by omega, IM20, CM20, (gFr.c gFr.rf FM20 rfl), ⟨(by have zb2 : M 159 2 = v1 := hv1; have ze2 : M20 159 2 = v22 := hv22; rw [zb2]; unfold gVal; rw [if_neg (by omega), if_neg (by omega), if_neg (by omega)]; rcases xM20 with ⟨u1, u2, u3⟩ | ⟨u1, u2, u3, u4⟩; (rw [if_neg u2]; exact Or.inl ⟨by omega, by rw [(by omega : M20 159 2 = v1)]⟩); (rw [if_pos u2, show gNum T 4 v1 = (v22, v19) from u3]; exact Or.inr ⟨by omega, by rw [(by omega : M20 159 2 = v22)]⟩)), (fun q => by omega)⟩⟩
  by_cases c23 : a = 9
  · refine g_tableIn (tgt := 50) X 4 dX7_readPart_1 (by omega) (by omega) (by omega) (by omega) rfl (by decide) ?_
    refine g_aload_n (n := 51) X 0 dX7_readPart_50 rfl rfl rfl ?_
    refine g_ldcS (n := 53) X 12 rfl dX7_readPart_51 rfl ?_
    refine g_callVi (n := 56) (As := [.ref (cA (100 + 12))]) (rest := []) (cs1 := 0) (ss1 := 0) X (e_X7_readSign 12 (by omega) o r_o hsz I C ht T hT) okX7_readSign kw_4_53 ⟨kw_4_55, kw_0_11⟩ ⟨rfl, rfl⟩ ⟨Nat.le_of_ble_eq_true rfl, Nat.le_of_ble_eq_true rfl⟩ rfl (by decide) (gsz hsz (by decide)) lay_159 rfl rfl (Nat.le_of_ble_eq_true rfl) ⟨Nat.le_of_ble_eq_true rfl, Nat.le_of_ble_eq_true rfl⟩ rfl rfl dX7_readPart_53 rfl (fun v24 M25 P26 => ?_)
    obtain ⟨rv24, IM25, CM25, FM25, xM25⟩ := P26
    rw [show M 159 2 = v1 from hv1] at xM25
    obtain ⟨v27, hv27, rv27⟩ := gRd IM25 (by decide) (gsz hsz (by decide)) rc_159_2.1
    rw [hv27] at xM25
    have yM25 := gSgn_12 xM25.1
    have gM25 : v24 ≤ 3 := by omega
    exact hq _ _ _ _ dX7_readPart_56 ⟨by omega, IM25, CM25, (gFr.c gFr.rf FM25 rfl), ⟨(by have zb2 : M 159 2 = v1 := hv1; have ze2 : M25 159 2 = v27 := hv27; rw [zb2]; unfold gVal; rw [if_neg (by omega), if_neg (by omega), if_pos (by omega)]; rcases yM25 with ⟨u1, u2⟩ | ⟨u1, u2⟩; (rw [if_neg u2]; exact Or.inl ⟨by omega, by rw [(by omega : M25 159 2 = v1)]⟩); (rw [if_pos (by omega)]; exact Or.inr ⟨by omega, by rw [(by omega : M25 159 2 = v1 + 1), show T v1 - 48 = v24 by omega]⟩)), (fun q => by omega)⟩⟩
  refine g_tableOut (tgt := 57) X dX7_readPart_1 (by omega) (by omega) (by decide) ?_
  refine g_aload_n (n := 58) X 0 dX7_readPart_57 rfl rfl rfl ?_
  refine g_iconst (n := 59) X dX7_readPart_58 rfl ?_
  refine g_callVi (n := 62) (As := [gJ 4]) (rest := []) (cs1 := 0) (ss1 := 0) X (e_X7_readNumber 4 (by omega) o r_o hsz I C ht T hT) okX7_readNumber kw_4_59 ⟨kw_4_61, kw_0_12⟩ ⟨rfl, rfl⟩ ⟨Nat.le_of_ble_eq_true rfl, Nat.le_of_ble_eq_true rfl⟩ rfl (by decide) (gsz hsz (by decide)) lay_159 rfl rfl (Nat.le_of_ble_eq_true rfl) ⟨Nat.le_of_ble_eq_true rfl, Nat.le_of_ble_eq_true rfl⟩ rfl rfl dX7_readPart_59 rfl (fun v28 M29 P30 => ?_)
  obtain ⟨rv28, IM29, CM29, FM29, xM29⟩ := P30
  rw [show M 159 2 = v1 from hv1] at xM29
  obtain ⟨v31, hv31, rv31⟩ := gRd IM29 (by decide) (gsz hsz (by decide)) rc_159_2.1
  rw [hv31] at xM29
  exact hq _ _ _ _ dX7_readPart_62 ⟨by omega, IM29, CM29, (gFr.c gFr.rf FM29 rfl), ⟨(by have zb2 : M 159 2 = v1 := hv1; have ze2 : M29 159 2 = v31 := hv31; rw [zb2]; unfold gVal; rw [if_neg (by omega), if_neg (by omega), if_neg (by omega)]; rcases xM29 with ⟨u1, u2, u3⟩ | ⟨u1, u2, u3, u4⟩; (rw [if_neg u2]; exact Or.inl ⟨by omega, by rw [(by omega : M29 159 2 = v1)]⟩); (rw [if_pos u2, show gNum T 4 v1 = (v31, v28) from u3]; exact Or.inr ⟨by omega, by rw [(by omega : M29 159 2 = v31)]⟩)), (fun q => by omega)⟩⟩
