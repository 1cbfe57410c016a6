def gWRf (M : gM) (k : Int) : Int := M 191 (k + 24)
abbrev R_s_X3_layRoad2 : Room := { frames := 4, cells := 0, slots := 0, locals := 120 }
set_option maxRecDepth 100000 in
set_option maxHeartbeats 4000000 in
theorem s_X3_layRoad2 {l : Launch} {n0 : Nat} {D : va_G} {cA : Nat → ClassId} {M : gM} (a : Int) (r_a : 0 ≤ a ∧ a ≤ 5) (b : Int) (r_b : 0 ≤ b ∧ b ≤ 5) (c : Int) (r_c : 1 ≤ c ∧ c ≤ 9) {sz : Nat} (hsz : 206 ≤ sz) (I : gI sz M) (C : gC sz M) (hm : gMet (M 4))  : Met l yX3_layRoad (gWsOf yX3_layRoad cX3_layRoad 8 (Option.some Jvm.ClassFile.FieldType.boolean)) R_s_X3_layRoad2 (gPc n0 D cA [gA n0 2, gJ a, gJ b, gJ c] M sz) (gQi n0 D cA sz (fun z M1 => (0 ≤ z ∧ z ≤ 1) ∧ gI sz M1 ∧ gC sz M1 ∧ gFr 4 M M1 ∧ ((∀ x y : Int, 0 ≤ x → x < 6 → 0 ≤ y → y < 6 → M1 4 (x * 6 + y) = gN (M 4) a b c x y) ∧ gCh (M 4) a b c 36 z))) 0 0 (fun q => n0 ≤ q) := by
  refine gMetZ [gA n0 2, gJ a, gJ b, gJ c] (by decide) (Nat.le_of_ble_eq_true rfl) ⟨rfl, rfl⟩ ?_
  intro p e s m args below meth cd Q X hq
  have X : gCx p s m args meth cd n0 D cA "ParishUnion$Land" cX3_layRoad 8 := X
  show G p l e R_s_X3_layRoad2 s m args below meth cd n0 D cA 8 Q 0 0 M sz 0 [(0, gA n0 2), (1, gJ a), (2, gJ b), (3, gJ c)] []
  refine g_iconst (n := 1) X dX3_layRoad_0 rfl ?_
  refine g_istore (n := 3) (L' := [(4, gJ 0), (0, gA n0 2), (1, gJ a), (2, gJ b), (3, gJ c)]) X dX3_layRoad_1 (by decide) rfl rfl ?_
  refine g_iconst (n := 4) X dX3_layRoad_3 rfl ?_
  refine g_istore (n := 6) (L' := [(5, gJ 0), (4, gJ 0), (0, gA n0 2), (1, gJ a), (2, gJ b), (3, gJ c)]) X dX3_layRoad_4 (by decide) rfl rfl ?_
  have j4 : ∀ (N645 : Nat) (v1 v2 : Int) (M3 : gM) , (0 ≤ v1 ∧ v1 ≤ 1) → (0 ≤ v2 ∧ v2 ≤ 6) → gI sz M3 → gC sz M3 → gFr 4 M M3 → (gPt (M3 4) (M 4) a b c (v2 * 6)) → (gRst (M3 4) (M 4) (v2 * 6)) → (gCh (M 4) a b c (v2 * 6) v1) → (6 - v2).toNat < N645 → G p l e R_s_X3_layRoad2 s m args below meth cd n0 D cA 8 Q 0 0 M3 sz 6 [(0, gA n0 2), (1, gJ a), (2, gJ b), (3, gJ c), (4, gJ v1), (5, gJ v2)] [] := by
    intro N645; induction N645 with
    | zero => intro v1 v2 M3 rv1 rv2 IM3 CM3 FM3 hP hR hC hm647; exfalso; omega
    | succ N645 ih646 =>
      intro v1 v2 M3 rv1 rv2 IM3 CM3 FM3 hP hR hC hm647
      refine g_iload (n := 8) X 5 dX3_layRoad_6 rfl rfl ?_
      refine g_bipush (n := 10) X dX3_layRoad_8 (by decide +kernel) rfl ?_
      refine g_icmp_ge (n := 13) (tgt := 105) X dX3_layRoad_10 (by decide) (by omega) (by omega) rfl (fun c648 => ?_) (fun c648 => ?_)
      · refine g_iload (n := 107) X 4 dX3_layRoad_105 rfl rfl ?_
        exact hq _ _ _ _ dX3_layRoad_107 (by omega) ⟨by omega, IM3, CM3, (gFr.c gFr.rf FM3 rfl), ⟨(fun x y x0 x1 y0 y1 => hP x y x0 x1 y0 y1 (by omega)), (by rw [show (36 : Int) = v2 * 6 by omega]; exact hC)⟩⟩
      · refine g_iconst (n := 14) X dX3_layRoad_13 rfl ?_
        refine g_istore (n := 16) (L' := [(6, gJ 0), (0, gA n0 2), (1, gJ a), (2, gJ b), (3, gJ c), (4, gJ v1), (5, gJ v2)]) X dX3_layRoad_14 (by decide) rfl rfl ?_
        have j652 : ∀ (N753 : Nat) (v649 v650 : Int) (M651 : gM) , (0 ≤ v649 ∧ v649 ≤ 1) → (0 ≤ v650 ∧ v650 ≤ 6) → gI sz M651 → gC sz M651 → gFr 4 M3 M651 → (gPt (M651 4) (M 4) a b c (v2 * 6 + v650)) → (gRst (M651 4) (M 4) (v2 * 6 + v650)) → (gCh (M 4) a b c (v2 * 6 + v650) v649) → (6 - v650).toNat < N753 → G p l e R_s_X3_layRoad2 s m args below meth cd n0 D cA 8 Q 0 0 M651 sz 16 [(0, gA n0 2), (1, gJ a), (2, gJ b), (3, gJ c), (4, gJ v649), (5, gJ v2), (6, gJ v650)] [] := by
          intro N753; induction N753 with
          | zero => intro v649 v650 M651 rv649 rv650 IM651 CM651 FM651 hQ hS hD hm755; exfalso; omega
          | succ N753 ih754 =>
            intro v649 v650 M651 rv649 rv650 IM651 CM651 FM651 hQ hS hD hm755
            refine g_iload (n := 18) X 6 dX3_layRoad_16 rfl rfl ?_
            refine g_bipush (n := 20) X dX3_layRoad_18 (by decide +kernel) rfl ?_
            refine g_icmp_ge (n := 23) (tgt := 99) X dX3_layRoad_20 (by decide) (by omega) (by omega) rfl (fun c756 => ?_) (fun c756 => ?_)
            · refine g_iinc (n := 102) (w := v2 + 1) (L' := [(5, gJ (v2 + 1)), (0, gA n0 2), (1, gJ a), (2, gJ b), (3, gJ c), (4, gJ v649), (6, gJ v650)]) X 5 dX3_layRoad_99 rfl rfl (by decide) rfl rfl ?_
              refine g_goto (tgt := 6) X dX3_layRoad_102 (by decide) ?_
              refine G.sub (L' := [(0, gA n0 2), (1, gJ a), (2, gJ b), (3, gJ c), (4, gJ v649), (5, gJ (v2 + 1))]) [1, 2, 3, 4, 5, 0] rfl ?_
              exact ih646 v649 (v2 + 1) M651 (by omega) (by omega) IM651 CM651 (gFr.c (gFr.c gFr.rf FM3 rfl) FM651 rfl) (by rw [show (v2 + 1) * 6 = v2 * 6 + v650 by omega]; exact hQ) (by rw [show (v2 + 1) * 6 = v2 * 6 + v650 by omega]; exact hS) (by rw [show (v2 + 1) * 6 = v2 * 6 + v650 by omega]; exact hD) (by omega)
            · refine g_aload_n (n := 24) X 0 dX3_layRoad_23 rfl rfl rfl ?_
              refine g_iload (n := 26) X 5 dX3_layRoad_24 rfl rfl ?_
              refine g_iload_n (n := 27) X 1 dX3_layRoad_26 rfl rfl rfl ?_
              refine g_callVi (n := 30) (As := [gJ v2, gJ a]) (rest := []) (cs1 := 0) (ss1 := 0) X (s_X3_distance v2 (by omega) a (by omega) hsz IM651 CM651 ) okX3_distance kw_3_40 ⟨kw_3_41, kw_3_42⟩ ⟨rfl, rfl⟩ ⟨Nat.le_of_ble_eq_true rfl, Nat.le_of_ble_eq_true rfl⟩ rfl (by decide) (gsz hsz (by decide)) lay_2 rfl rfl (Nat.le_of_ble_eq_true rfl) ⟨Nat.le_of_ble_eq_true rfl, Nat.le_of_ble_eq_true rfl⟩ rfl rfl dX3_layRoad_27 rfl (fun v757 M758 P759 => ?_)
              obtain ⟨rfl, rv757, xv757⟩ := P759
              refine g_iload_n (n := 31) X 3 dX3_layRoad_30 rfl rfl rfl ?_
              refine g_iadd (n := 32) (z := v757 + c) X dX3_layRoad_31 rfl rfl ?_
              refine g_aload_n (n := 33) X 0 dX3_layRoad_32 rfl rfl rfl ?_
              refine g_iload_n (n := 34) X 2 dX3_layRoad_33 rfl rfl rfl ?_
              refine g_iload (n := 36) X 6 dX3_layRoad_34 rfl rfl ?_
              refine g_callVi (n := 39) (As := [gJ b, gJ v650]) (rest := [gJ (v757 + c)]) (cs1 := 0) (ss1 := 0) X (s_X3_distance b (by omega) v650 (by omega) hsz IM651 CM651 ) okX3_distance kw_3_40 ⟨kw_3_41, kw_3_42⟩ ⟨rfl, rfl⟩ ⟨Nat.le_of_ble_eq_true rfl, Nat.le_of_ble_eq_true rfl⟩ rfl (by decide) (gsz hsz (by decide)) lay_2 rfl rfl (Nat.le_of_ble_eq_true rfl) ⟨Nat.le_of_ble_eq_true rfl, Nat.le_of_ble_eq_true rfl⟩ rfl rfl dX3_layRoad_36 rfl (fun v760 M761 P762 => ?_)
              obtain ⟨rfl, rv760, xv760⟩ := P762
              refine g_iadd (n := 40) (z := (v757 + c) + v760) X dX3_layRoad_39 rfl rfl ?_
              refine g_aload_n (n := 41) X 0 dX3_layRoad_40 rfl rfl rfl ?_
              refine g_iload (n := 43) X 5 dX3_layRoad_41 rfl rfl ?_
              refine g_iload_n (n := 44) X 2 dX3_layRoad_43 rfl rfl rfl ?_
              refine g_callVi (n := 47) (As := [gJ v2, gJ b]) (rest := [gJ ((v757 + c) + v760)]) (cs1 := 0) (ss1 := 0) X (s_X3_distance v2 (by omega) b (by omega) hsz IM651 CM651 ) okX3_distance kw_3_40 ⟨kw_3_41, kw_3_42⟩ ⟨rfl, rfl⟩ ⟨Nat.le_of_ble_eq_true rfl, Nat.le_of_ble_eq_true rfl⟩ rfl (by decide) (gsz hsz (by decide)) lay_2 rfl rfl (Nat.le_of_ble_eq_true rfl) ⟨Nat.le_of_ble_eq_true rfl, Nat.le_of_ble_eq_true rfl⟩ rfl rfl dX3_layRoad_44 rfl (fun v763 M764 P765 => ?_)
              obtain ⟨rfl, rv763, xv763⟩ := P765
              refine g_iload_n (n := 48) X 3 dX3_layRoad_47 rfl rfl rfl ?_
              refine g_iadd (n := 49) (z := v763 + c) X dX3_layRoad_48 rfl rfl ?_
              refine g_aload_n (n := 50) X 0 dX3_layRoad_49 rfl rfl rfl ?_
              refine g_iload_n (n := 51) X 1 dX3_layRoad_50 rfl rfl rfl ?_
              refine g_iload (n := 53) X 6 dX3_layRoad_51 rfl rfl ?_
              refine g_callVi (n := 56) (As := [gJ a, gJ v650]) (rest := [gJ (v763 + c), gJ ((v757 + c) + v760)]) (cs1 := 0) (ss1 := 0) X (s_X3_distance a (by omega) v650 (by omega) hsz IM651 CM651 ) okX3_distance kw_3_40 ⟨kw_3_41, kw_3_42⟩ ⟨rfl, rfl⟩ ⟨Nat.le_of_ble_eq_true rfl, Nat.le_of_ble_eq_true rfl⟩ rfl (by decide) (gsz hsz (by decide)) lay_2 rfl rfl (Nat.le_of_ble_eq_true rfl) ⟨Nat.le_of_ble_eq_true rfl, Nat.le_of_ble_eq_true rfl⟩ rfl rfl dX3_layRoad_53 rfl (fun v766 M767 P768 => ?_)
              obtain ⟨rfl, rv766, xv766⟩ := P768
              refine g_iadd (n := 57) (z := (v763 + c) + v766) X dX3_layRoad_56 rfl rfl ?_
              refine g_mmin (n := 60) X kw_3_44 kw_3_45 kw_1_14 kw_3_46 (by omega) (by omega) (Nat.le_of_ble_eq_true rfl) (Nat.le_of_ble_eq_true rfl) (Nat.le_of_ble_eq_true rfl) (Nat.le_of_ble_eq_true rfl) dX3_layRoad_57 rfl (fun x769 hx769 => ?_)
              have rx769 : 1 ≤ x769 ∧ x769 ≤ 207 := by omega
              refine g_istore (n := 62) (L' := [(7, gJ x769), (0, gA n0 2), (1, gJ a), (2, gJ b), (3, gJ c), (4, gJ v649), (5, gJ v2), (6, gJ v650)]) X dX3_layRoad_60 (by decide) rfl rfl ?_
              refine g_iload (n := 64) X 0 dX3_layRoad_62 rfl rfl ?_
              refine g_aload_n (n := 65) X 1 dX3_layRoad_64 rfl rfl rfl ?_
              refine g_iload (n := 67) X 6 dX3_layRoad_65 rfl rfl ?_
              refine g_iload (n := 69) X 7 dX3_layRoad_67 rfl rfl ?_
              refine g_callVi (n := 72) (As := [gJ v2, gJ v650]) (rest := [gJ x769]) (cs1 := 0) (ss1 := 0) X (s_X3_distance v2 (by omega) v650 (by omega) hsz IM651 CM651 ) okX3_distance kw_3_40 ⟨kw_3_41, kw_3_42⟩ ⟨rfl, rfl⟩ ⟨Nat.le_of_ble_eq_true rfl, Nat.le_of_ble_eq_true rfl⟩ rfl (by decide) (gsz hsz (by decide)) lay_2 rfl rfl (Nat.le_of_ble_eq_true rfl) ⟨Nat.le_of_ble_eq_true rfl, Nat.le_of_ble_eq_true rfl⟩ rfl rfl dX3_layRoad_69 rfl (fun v770 M771 P772 => ?_)
              obtain ⟨rfl, rv770, xv770⟩ := P772
              have q5 : M 4 (v2 * 6 + v650) = v770 := by rw [xv770]; exact (hS (v2 * 6 + v650) (by omega) (by omega)).symm
              have st := gN_step (W := M 4) (a := a) (b := b) (w := c) (x := v2) (y := v650) (r1 := v757) (r2 := v760) (r3 := v763) (r4 := v766) (v := x769) hm (by omega) (by omega) (by omega) (by omega) (by omega) (by omega) (by omega) (by omega) (by omega) (by rw [xv757]; exact gPt.or hQ hS (by omega) (by omega) (by omega) (by omega) ) (by rw [xv760]; exact gPt.or hQ hS (by omega) (by omega) (by omega) (by omega) ) (by rw [xv763]; exact gPt.or hQ hS (by omega) (by omega) (by omega) (by omega) ) (by rw [xv766]; exact gPt.or hQ hS (by omega) (by omega) (by omega) (by omega) ) (by omega)
              refine g_icmp_ge (n := 75) (tgt := 93) X dX3_layRoad_72 (by decide) (by omega) (by omega) rfl (fun c773 => ?_) (fun c773 => ?_)
              · refine g_iinc (n := 96) (w := v650 + 1) (L' := [(6, gJ (v650 + 1)), (7, gJ x769), (0, gA n0 2), (1, gJ a), (2, gJ b), (3, gJ c), (4, gJ v649), (5, gJ v2)]) X 7 dX3_layRoad_93 rfl rfl (by decide) rfl rfl ?_
                refine g_goto (tgt := 16) X dX3_layRoad_96 (by decide) ?_
                refine G.sub (L' := [(0, gA n0 2), (1, gJ a), (2, gJ b), (3, gJ c), (4, gJ v649), (5, gJ v2), (6, gJ (v650 + 1))]) [2, 3, 4, 5, 6, 7, 0] rfl ?_
                exact ih754 v649 (v650 + 1) M651 (by omega) (by omega) IM651 CM651 (gFr.c gFr.rf FM651 rfl) (gPt.next (x := v2) (y := v650) hQ (by omega) (by omega) (by omega) (by omega) rfl (by omega) (fun k h0 h1 => rfl) ((hS _ (by omega) (by omega)).trans (st.2 (by omega)).symm)) (fun k h0 h1 => hS k (by omega) h1) (gCh.no (x := v2) (y := v650) hD (by omega) (by omega) (by omega) (by omega) rfl (by omega) (st.2 (by omega))) (by omega)
              · refine g_aload_n (n := 76) X 1 dX3_layRoad_75 rfl rfl rfl ?_
                refine gg_3_1 (n := 79) (z := 4) X (by decide) (gsz hsz (by decide)) lay_2 kw_1_43 dX3_layRoad_76 rfl (rf_2_1 IM651 (gsz hsz (by decide))) (by decide) ?_
                refine g_iload (n := 81) X 6 dX3_layRoad_79 rfl rfl ?_
                refine g_bipush (n := 83) X dX3_layRoad_81 (by decide +kernel) rfl ?_
                refine g_imul (n := 84) (z := v2 * 6) X dX3_layRoad_83 rfl rfl ?_
                refine g_iload (n := 86) X 7 dX3_layRoad_84 rfl rfl ?_
                refine g_iadd (n := 87) (z := (v2 * 6) + v650) X dX3_layRoad_86 rfl rfl ?_
                refine g_iload (n := 89) X 0 dX3_layRoad_87 rfl rfl ?_
                refine g_iast (n := 90) X (by decide) (gsz hsz (by decide)) lay_4 (by omega) (by omega) (by decide) dX3_layRoad_89 rfl ?_
                refine G.nm (fun M774 e775 => ?_)
                have IM774 : gI sz M774 := gI.set IM651 (ra_4 ((v2 * 6) + v650)).1 (by omega) e775
                have CM774 : gC sz M774 := gC.set CM651 (ra_4 ((v2 * 6) + v650)).2.1 e775
                refine g_iconst (n := 91) X dX3_layRoad_90 rfl ?_
                refine g_istore (n := 93) (L' := [(4, gJ 1), (7, gJ x769), (0, gA n0 2), (1, gJ a), (2, gJ b), (3, gJ c), (5, gJ v2), (6, gJ v650)]) X dX3_layRoad_91 (by decide) rfl rfl ?_
                refine g_iinc (n := 96) (w := v650 + 1) (L' := [(6, gJ (v650 + 1)), (4, gJ 1), (7, gJ x769), (0, gA n0 2), (1, gJ a), (2, gJ b), (3, gJ c), (5, gJ v2)]) X 7 dX3_layRoad_93 rfl rfl (by decide) rfl rfl ?_
                refine g_goto (tgt := 16) X dX3_layRoad_96 (by decide) ?_
                refine G.sub (L' := [(0, gA n0 2), (1, gJ a), (2, gJ b), (3, gJ c), (4, gJ 1), (5, gJ v2), (6, gJ (v650 + 1))]) [3, 4, 5, 6, 1, 7, 0] rfl ?_
                exact ih754 1 (v650 + 1) M774 (by omega) (by omega) IM774 CM774 (gFr.s (gFr.c gFr.rf FM651 rfl) e775 (ra_4 ((v2 * 6) + v650)).2.2 rfl) (gPt.next (x := v2) (y := v650) hQ (by omega) (by omega) (by omega) (by omega) rfl (by omega) (fun k h0 h1 => by rw [e775, gset_ne (by omega)]) (by rw [e775, gset_eq]; exact st.1 (by omega))) (fun k h0 h1 => by rw [e775, gset_ne (by omega)]; exact hS k (by omega) h1) (gCh.yes (x := v2) (y := v650) (by omega) (by omega) (by omega) (by omega) (by omega) (by have s1 := st.1 (by omega); omega) (by omega)) (by omega)
        refine G.sub (L' := [(0, gA n0 2), (1, gJ a), (2, gJ b), (3, gJ c), (4, gJ v1), (5, gJ v2), (6, gJ 0)]) [1, 2, 3, 4, 5, 6, 0] rfl ?_
        exact j652 _ v1 0 M3 (by omega) (by omega) IM3 CM3 gFr.rf (by rw [show v2 * 6 + 0 = v2 * 6 by omega]; exact hP) (by rw [show v2 * 6 + 0 = v2 * 6 by omega]; exact hR) (by rw [show v2 * 6 + 0 = v2 * 6 by omega]; exact hC) (Nat.lt_succ_self _)
  refine G.sub (L' := [(0, gA n0 2), (1, gJ a), (2, gJ b), (3, gJ c), (4, gJ 0), (5, gJ 0)]) [2, 3, 4, 5, 1, 0] rfl ?_
  exact j4 _ 0 0 M (by omega) (by omega) I C gFr.rf (fun x y x0 x1 y0 y1 g => by exfalso; omega) (fun k h0 h1 => rfl) (gCh.z (by omega) rfl) (Nat.lt_succ_self _)
abbrev R_s_X11_road2 : Room := { frames := 5, cells := 0, slots := 0, locals := 147 }
set_option maxRecDepth 100000 in
set_option maxHeartbeats 4000000 in
theorem s_X11_road2 {l : Launch} {n0 : Nat} {D : va_G} {cA : Nat → ClassId} {M : gM} (a : Int) (r_a : -2147483648 ≤ a ∧ a ≤ 2147483647) (b : Int) (r_b : -2147483648 ≤ b ∧ b ≤ 2147483647) (c : Int) (r_c : -2147483648 ≤ c ∧ c ≤ 2147483647) {sz : Nat} (hsz : 206 ≤ sz) (I : gI sz M) (C : gC sz M) (hm : gMet (M 4))  : Met l yX11_road (gWsOf yX11_road cX11_road 4 (Option.some Jvm.ClassFile.FieldType.int)) R_s_X11_road2 (gPc n0 D cA [gA n0 0, gJ a, gJ b, gJ c] M sz) (gQi n0 D cA sz (fun z M1 => (-2 ≤ z ∧ z ≤ 1) ∧ gI sz M1 ∧ gC sz M1 ∧ gFr 4 M M1 ∧ (((((¬ (0 ≤ a ∧ a ≤ 5) ∨ ¬ (0 ≤ b ∧ b ≤ 5)) ∧ z = -1) ∨ (¬ (¬ (0 ≤ a ∧ a ≤ 5) ∨ ¬ (0 ≤ b ∧ b ≤ 5)) ∧ (a = b ∨ ¬ (1 ≤ c ∧ c ≤ 9)) ∧ z = -2)) ∧ (∀ k : Int, M1 4 k = M 4 k)) ∨ ((¬ (¬ (0 ≤ a ∧ a ≤ 5) ∨ ¬ (0 ≤ b ∧ b ≤ 5)) ∧ ¬ (a = b ∨ ¬ (1 ≤ c ∧ c ≤ 9))) ∧ (∀ x y : Int, 0 ≤ x → x < 6 → 0 ≤ y → y < 6 → M1 4 (x * 6 + y) = gN (M 4) a b c x y) ∧ gCh (M 4) a b c 36 z)))) 0 0 (fun q => n0 ≤ q) := by
  refine gMetI [gA n0 0, gJ a, gJ b, gJ c] (by decide) (Nat.le_of_ble_eq_true rfl) ⟨rfl, rfl⟩ ?_
  intro p e s m args below meth cd Q X hq
  have X : gCx p s m args meth cd n0 D cA "ParishUnion" cX11_road 4 := X
  show G p l e R_s_X11_road2 s m args below meth cd n0 D cA 4 Q 0 0 M sz 0 [(0, gA n0 0), (1, gJ a), (2, gJ b), (3, gJ c)] []
  refine g_iload_n (n := 1) X 1 dX11_road_0 rfl rfl rfl ?_
  refine g_callSi (n := 4) (As := [gJ a]) (rest := []) (cs1 := 0) (ss1 := 0) X (s_X11_isParish a (by omega) hsz I C ) okX11_isParish kw_3_26 kw_3_27 ⟨rfl, rfl⟩ ⟨Nat.le_of_ble_eq_true rfl, Nat.le_of_ble_eq_true rfl⟩ rfl rfl (Nat.le_of_ble_eq_true rfl) ⟨Nat.le_of_ble_eq_true rfl, Nat.le_of_ble_eq_true rfl⟩ rfl rfl dX11_road_1 rfl (fun v1 M2 P3 => ?_)
  obtain ⟨rfl, rv1, xv1⟩ := P3
  refine g_if_eq (n := 7) (tgt := 14) X dX11_road_4 (by decide) (by omega) rfl (fun c4 => ?_) (fun c4 => ?_)
  · refine g_iconst (n := 15) X dX11_road_14 rfl ?_
    exact hq _ _ _ _ dX11_road_15 ⟨by omega, I, C, gFr.rf, Or.inl ⟨by omega, fun k => rfl⟩⟩
  · refine g_iload_n (n := 8) X 2 dX11_road_7 rfl rfl rfl ?_
    refine g_callSi (n := 11) (As := [gJ b]) (rest := []) (cs1 := 0) (ss1 := 0) X (s_X11_isParish b (by omega) hsz I C ) okX11_isParish kw_3_26 kw_3_27 ⟨rfl, rfl⟩ ⟨Nat.le_of_ble_eq_true rfl, Nat.le_of_ble_eq_true rfl⟩ rfl rfl (Nat.le_of_ble_eq_true rfl) ⟨Nat.le_of_ble_eq_true rfl, Nat.le_of_ble_eq_true rfl⟩ rfl rfl dX11_road_8 rfl (fun v5 M6 P7 => ?_)
    obtain ⟨rfl, rv5, xv5⟩ := P7
    refine g_if_ne (n := 14) (tgt := 16) X dX11_road_11 (by decide) (by omega) rfl (fun c8 => ?_) (fun c8 => ?_)
    · refine g_iload_n (n := 17) X 1 dX11_road_16 rfl rfl rfl ?_
      refine g_iload_n (n := 18) X 2 dX11_road_17 rfl rfl rfl ?_
      refine g_icmp_eq (n := 21) (tgt := 31) X dX11_road_18 (by decide) (by omega) (by omega) rfl (fun c9 => ?_) (fun c9 => ?_)
      · refine g_bipush (n := 33) X dX11_road_31 (by decide +kernel) rfl ?_
        exact hq _ _ _ _ dX11_road_33 ⟨by omega, I, C, gFr.rf, Or.inl ⟨by omega, fun k => rfl⟩⟩
      · refine g_iload_n (n := 22) X 3 dX11_road_21 rfl rfl rfl ?_
        refine g_iconst (n := 23) X dX11_road_22 rfl ?_
        refine g_bipush (n := 25) X dX11_road_23 (by decide +kernel) rfl ?_
        refine g_callSi (n := 28) (As := [gJ c, gJ 1, gJ 9]) (rest := []) (cs1 := 0) (ss1 := 0) X (s_X11_within c (by omega) 1 (by omega) 9 (by omega) hsz I C ) okX11_within kw_3_29 kw_3_30 ⟨rfl, rfl⟩ ⟨Nat.le_of_ble_eq_true rfl, Nat.le_of_ble_eq_true rfl⟩ rfl rfl (Nat.le_of_ble_eq_true rfl) ⟨Nat.le_of_ble_eq_true rfl, Nat.le_of_ble_eq_true rfl⟩ rfl rfl dX11_road_25 rfl (fun v10 M11 P12 => ?_)
        obtain ⟨rfl, rv10, xv10⟩ := P12
        refine g_if_ne (n := 31) (tgt := 34) X dX11_road_28 (by decide) (by omega) rfl (fun c13 => ?_) (fun c13 => ?_)
        · refine g_aload_n (n := 35) X 0 dX11_road_34 rfl rfl rfl ?_
          refine gg_11_0 (n := 38) (z := 1) X (by decide) (gsz hsz (by decide)) lay_0 kw_2_231 dX11_road_35 rfl (rf_0_0 I (gsz hsz (by decide))) (by decide) ?_
          refine gg_9_0 (n := 41) (z := 2) X (by decide) (gsz hsz (by decide)) lay_1 kw_2_105 dX11_road_38 rfl (rf_1_0 I (gsz hsz (by decide))) (by decide) ?_
          refine g_iload_n (n := 42) X 1 dX11_road_41 rfl rfl rfl ?_
          refine g_iload_n (n := 43) X 2 dX11_road_42 rfl rfl rfl ?_
          refine g_iload_n (n := 44) X 3 dX11_road_43 rfl rfl rfl ?_
          refine g_callVi (n := 47) (As := [gJ a, gJ b, gJ c]) (rest := []) (cs1 := 0) (ss1 := 0) X (s_X3_layRoad2 a (by omega) b (by omega) c (by omega) hsz I C hm) okX3_layRoad kw_3_36 ⟨kw_3_37, kw_3_38⟩ ⟨rfl, rfl⟩ ⟨Nat.le_of_ble_eq_true rfl, Nat.le_of_ble_eq_true rfl⟩ rfl (by decide) (gsz hsz (by decide)) lay_2 rfl rfl (Nat.le_of_ble_eq_true rfl) ⟨Nat.le_of_ble_eq_true rfl, Nat.le_of_ble_eq_true rfl⟩ rfl rfl dX11_road_44 rfl (fun v14 M15 P16 => ?_)
          obtain ⟨rv14, IM15, CM15, FM15, xM15⟩ := P16
          refine g_if_eq (n := 50) (tgt := 54) X dX11_road_47 (by decide) (by omega) rfl (fun c17 => ?_) (fun c17 => ?_)
          · refine g_iconst (n := 55) X dX11_road_54 rfl ?_
            exact hq _ _ _ _ dX11_road_55 ⟨by omega, IM15, CM15, (gFr.c gFr.rf FM15 rfl), Or.inr ⟨⟨by omega, by omega⟩, xM15.1, (by rw [show (0 : Int) = v14 by omega]; exact xM15.2)⟩⟩
          · refine g_iconst (n := 51) X dX11_road_50 rfl ?_
            refine g_goto (tgt := 55) X dX11_road_51 (by decide) ?_
            exact hq _ _ _ _ dX11_road_55 ⟨by omega, IM15, CM15, (gFr.c gFr.rf FM15 rfl), Or.inr ⟨⟨by omega, by omega⟩, xM15.1, (by rw [show (1 : Int) = v14 by omega]; exact xM15.2)⟩⟩
        · refine g_bipush (n := 33) X dX11_road_31 (by decide +kernel) rfl ?_
          exact hq _ _ _ _ dX11_road_33 ⟨by omega, I, C, gFr.rf, Or.inl ⟨by omega, fun k => rfl⟩⟩
    · refine g_iconst (n := 15) X dX11_road_14 rfl ?_
      exact hq _ _ _ _ dX11_road_15 ⟨by omega, I, C, gFr.rf, Or.inl ⟨by omega, fun k => rfl⟩⟩
abbrev R_s_X12_road2 : Room := { frames := 2, cells := 0, slots := 0, locals := 42 }
set_option maxRecDepth 100000 in
set_option maxHeartbeats 4000000 in
theorem s_X12_road2 {l : Launch} {n0 : Nat} {D : va_G} {cA : Nat → ClassId} {M : gM} (a : Int) (r_a : -2147483648 ≤ a ∧ a ≤ 2147483647) (b : Int) (r_b : -2147483648 ≤ b ∧ b ≤ 2147483647) (c : Int) (r_c : -2147483648 ≤ c ∧ c ≤ 2147483647) {sz : Nat} (hsz : 206 ≤ sz) (I : gI sz M) (C : gC sz M)   : Met l yX12_road (gWsOf yX12_road cX12_road 10 (Option.some Jvm.ClassFile.FieldType.int)) R_s_X12_road2 (gPc n0 D cA [gA n0 190, gJ a, gJ b, gJ c] M sz) (gQi n0 D cA sz (fun z M1 => (-2 ≤ z ∧ z ≤ 1) ∧ gI sz M1 ∧ gC sz M1 ∧ gFr 36893558516163280896 M M1 ∧ (((((¬ (0 ≤ a ∧ a ≤ 5) ∨ ¬ (0 ≤ b ∧ b ≤ 5)) ∧ z = -1) ∨ (¬ (¬ (0 ≤ a ∧ a ≤ 5) ∨ ¬ (0 ≤ b ∧ b ≤ 5)) ∧ (a = b ∨ ¬ (1 ≤ c ∧ c ≤ 9)) ∧ z = -2)) ∧ (∀ k : Int, M1 191 k = M 191 k)) ∨ ((¬ (¬ (0 ≤ a ∧ a ≤ 5) ∨ ¬ (0 ≤ b ∧ b ≤ 5)) ∧ ¬ (a = b ∨ ¬ (1 ≤ c ∧ c ≤ 9))) ∧ (∀ x y : Int, 0 ≤ x → x < 6 → 0 ≤ y → y < 6 → M1 191 (x * 6 + y + 24) = gN (gWRf M) a b c x y) ∧ gCh (gWRf M) a b c 36 z)))) 0 0 (fun q => n0 ≤ q) := by
  refine gMetI [gA n0 190, gJ a, gJ b, gJ c] (by decide) (Nat.le_of_ble_eq_true rfl) ⟨rfl, rfl⟩ ?_
  intro p e s m args below meth cd Q X hq
  have X : gCx p s m args meth cd n0 D cA "ParishUnionModel" cX12_road 10 := X
  show G p l e R_s_X12_road2 s m args below meth cd n0 D cA 10 Q 0 0 M sz 0 [(0, gA n0 190), (1, gJ a), (2, gJ b), (3, gJ c)] []
  refine g_iload_n (n := 1) X 1 dX12_road_0 rfl rfl rfl ?_
  refine g_callSi (n := 4) (As := [gJ a]) (rest := []) (cs1 := 0) (ss1 := 0) X (s_X12_isParish a (by omega) hsz I C ) okX12_isParish kw_6_103 kw_6_104 ⟨rfl, rfl⟩ ⟨Nat.le_of_ble_eq_true rfl, Nat.le_of_ble_eq_true rfl⟩ rfl rfl (Nat.le_of_ble_eq_true rfl) ⟨Nat.le_of_ble_eq_true rfl, Nat.le_of_ble_eq_true rfl⟩ rfl rfl dX12_road_1 rfl (fun v1 M2 P3 => ?_)
  obtain ⟨rfl, rv1, xv1⟩ := P3
  refine g_if_eq (n := 7) (tgt := 14) X dX12_road_4 (by decide) (by omega) rfl (fun c4 => ?_) (fun c4 => ?_)
  · refine g_iconst (n := 15) X dX12_road_14 rfl ?_
    exact hq _ _ _ _ dX12_road_15 ⟨by omega, I, C, gFr.rf, Or.inl ⟨by omega, fun k => rfl⟩⟩
  · refine g_iload_n (n := 8) X 2 dX12_road_7 rfl rfl rfl ?_
    refine g_callSi (n := 11) (As := [gJ b]) (rest := []) (cs1 := 0) (ss1 := 0) X (s_X12_isParish b (by omega) hsz I C ) okX12_isParish kw_6_103 kw_6_104 ⟨rfl, rfl⟩ ⟨Nat.le_of_ble_eq_true rfl, Nat.le_of_ble_eq_true rfl⟩ rfl rfl (Nat.le_of_ble_eq_true rfl) ⟨Nat.le_of_ble_eq_true rfl, Nat.le_of_ble_eq_true rfl⟩ rfl rfl dX12_road_8 rfl (fun v5 M6 P7 => ?_)
    obtain ⟨rfl, rv5, xv5⟩ := P7
    refine g_if_ne (n := 14) (tgt := 16) X dX12_road_11 (by decide) (by omega) rfl (fun c8 => ?_) (fun c8 => ?_)
    · refine g_iload_n (n := 17) X 1 dX12_road_16 rfl rfl rfl ?_
      refine g_iload_n (n := 18) X 2 dX12_road_17 rfl rfl rfl ?_
      refine g_icmp_eq (n := 21) (tgt := 31) X dX12_road_18 (by decide) (by omega) (by omega) rfl (fun c9 => ?_) (fun c9 => ?_)
      · refine g_bipush (n := 33) X dX12_road_31 (by decide +kernel) rfl ?_
        exact hq _ _ _ _ dX12_road_33 ⟨by omega, I, C, gFr.rf, Or.inl ⟨by omega, fun k => rfl⟩⟩
      · refine g_iload_n (n := 22) X 3 dX12_road_21 rfl rfl rfl ?_
        refine g_iconst (n := 23) X dX12_road_22 rfl ?_
        refine g_bipush (n := 25) X dX12_road_23 (by decide +kernel) rfl ?_
        refine g_callSi (n := 28) (As := [gJ c, gJ 1, gJ 9]) (rest := []) (cs1 := 0) (ss1 := 0) X (s_X12_in c (by omega) 1 (by omega) 9 (by omega) hsz I C ) okX12_in kw_6_106 kw_6_107 ⟨rfl, rfl⟩ ⟨Nat.le_of_ble_eq_true rfl, Nat.le_of_ble_eq_true rfl⟩ rfl rfl (Nat.le_of_ble_eq_true rfl) ⟨Nat.le_of_ble_eq_true rfl, Nat.le_of_ble_eq_true rfl⟩ rfl rfl dX12_road_25 rfl (fun v10 M11 P12 => ?_)
        obtain ⟨rfl, rv10, xv10⟩ := P12
        refine g_if_ne (n := 31) (tgt := 34) X dX12_road_28 (by decide) (by omega) rfl (fun c13 => ?_) (fun c13 => ?_)
        · refine g_iconst (n := 35) X dX12_road_34 rfl ?_
          refine g_istore (n := 37) (L' := [(4, gJ 0), (0, gA n0 190), (1, gJ a), (2, gJ b), (3, gJ c)]) X dX12_road_35 (by decide) rfl rfl ?_
          refine g_iconst (n := 38) X dX12_road_37 rfl ?_
          refine g_istore (n := 40) (L' := [(5, gJ 0), (4, gJ 0), (0, gA n0 190), (1, gJ a), (2, gJ b), (3, gJ c)]) X dX12_road_38 (by decide) rfl rfl ?_
          have j17 : ∀ (N1212 : Nat) (v14 v15 : Int) (M16 : gM) , (0 ≤ v14 ∧ v14 ≤ 1) → (0 ≤ v15 ∧ v15 ≤ 6) → gI sz M16 → gC sz M16 → gFr 36893488147419103232 M M16 → (gPt (M16 194) (gWRf M) a b c (v15 * 6)) → (gCh (gWRf M) a b c (v15 * 6) v14) → (6 - v15).toNat < N1212 → G p l e R_s_X12_road2 s m args below meth cd n0 D cA 10 Q 0 0 M16 sz 40 [(0, gA n0 190), (1, gJ a), (2, gJ b), (3, gJ c), (4, gJ v14), (5, gJ v15)] [] := by
            intro N1212; induction N1212 with
            | zero => intro v14 v15 M16 rv14 rv15 IM16 CM16 FM16 hP hC hm1214; exfalso; omega
            | succ N1212 ih1213 =>
              intro v14 v15 M16 rv14 rv15 IM16 CM16 FM16 hP hC hm1214
              refine g_iload (n := 42) X 5 dX12_road_40 rfl rfl ?_
              refine g_bipush (n := 44) X dX12_road_42 (by decide +kernel) rfl ?_
              refine g_icmp_ge (n := 47) (tgt := 178) X dX12_road_44 (by decide) (by omega) (by omega) rfl (fun c1215 => ?_) (fun c1215 => ?_)
              · have hP36 : gPt (M16 194) (gWRf M) a b c 36 := by rw [show (36 : Int) = v15 * 6 by omega]; exact hP
                have hC36 : gCh (gWRf M) a b c 36 v14 := by rw [show (36 : Int) = v15 * 6 by omega]; exact hC
                refine g_iconst (n := 179) X dX12_road_178 rfl ?_
                refine g_istore (n := 181) (L' := [(5, gJ 0), (0, gA n0 190), (1, gJ a), (2, gJ b), (3, gJ c), (4, gJ v14)]) X dX12_road_179 (by decide) rfl rfl ?_
                have j1218 : ∀ (N1283 : Nat) (v1216 : Int) (M1217 : gM) , (0 ≤ v1216 ∧ v1216 ≤ 36) → gI sz M1217 → gC sz M1217 → gFr 70368744177664 M16 M1217 → (∀ k : Int, 0 ≤ k → k < v1216 → M1217 191 (k + 24) = M16 194 k) → (36 - v1216).toNat < N1283 → G p l e R_s_X12_road2 s m args below meth cd n0 D cA 10 Q 0 0 M1217 sz 181 [(0, gA n0 190), (4, gJ v14), (5, gJ v1216)] [] := by
                  intro N1283; induction N1283 with
                  | zero => intro v1216 M1217 rv1216 IM1217 CM1217 FM1217 hK hm1285; exfalso; omega
                  | succ N1283 ih1284 =>
                    intro v1216 M1217 rv1216 IM1217 CM1217 FM1217 hK hm1285
                    refine g_iload (n := 183) X 2 dX12_road_181 rfl rfl ?_
                    refine g_bipush (n := 185) X dX12_road_183 (by decide +kernel) rfl ?_
                    refine g_icmp_ge (n := 188) (tgt := 211) X dX12_road_185 (by decide) (by omega) (by omega) rfl (fun c1286 => ?_) (fun c1286 => ?_)
                    · refine g_iload (n := 213) X 1 dX12_road_211 rfl rfl ?_
                      exact hq _ _ _ _ dX12_road_213 ⟨by omega, IM1217, CM1217, (gFr.c (gFr.c gFr.rf FM16 rfl) FM1217 rfl), Or.inr ⟨⟨by omega, by omega⟩, (fun x y x0 x1 y0 y1 => (hK (x * 6 + y) (by omega) (by omega)).trans (hP36 x y x0 x1 y0 y1 (by omega))), hC36⟩⟩
                    · refine g_aload_n (n := 189) X 0 dX12_road_188 rfl rfl rfl ?_
                      refine gg_12_1 (n := 192) (z := 191) X (by decide) (gsz hsz (by decide)) lay_190 kw_6_27 dX12_road_189 rfl (rf_190_1 IM1217 (gsz hsz (by decide))) (by decide) ?_
                      refine g_bipush (n := 194) X dX12_road_192 (by decide +kernel) rfl ?_
                      refine g_iload (n := 196) X 2 dX12_road_194 rfl rfl ?_
                      refine g_iadd (n := 197) (z := v1216 + 24) X dX12_road_196 (by omega) rfl ?_
                      refine g_aload_n (n := 198) X 0 dX12_road_197 rfl rfl rfl ?_
                      refine gg_12_5 (n := 201) (z := 194) X (by decide) (gsz hsz (by decide)) lay_190 kw_6_31 dX12_road_198 rfl (rf_190_5 IM1217 (gsz hsz (by decide))) (by decide) ?_
                      refine g_iload (n := 203) X 2 dX12_road_201 rfl rfl ?_
                      obtain ⟨v1287, hv1287, rv1287⟩ := gRd IM1217 (by decide) (gsz hsz (by decide)) (ra_194 v1216).1
                      refine g_iald2 (n := 204) (v := v1287) X (by decide) (gsz hsz (by decide)) lay_194 (by omega) (by omega) (by decide) dX12_road_203 rfl hv1287 ?_
                      refine g_iast (n := 205) X (by decide) (gsz hsz (by decide)) lay_191 (by omega) (by omega) (by decide) dX12_road_204 rfl ?_
                      refine G.nm (fun M1288 e1289 => ?_)
                      have IM1288 : gI sz M1288 := gI.set IM1217 (rs_ROAD (k := v1216 + 24) (by omega)).1 (by omega) e1289
                      have CM1288 : gC sz M1288 := gC.set CM1217 (rs_ROAD (k := v1216 + 24) (by omega)).2.1 e1289
                      refine g_iinc (n := 208) (w := v1216 + 1) (L' := [(5, gJ (v1216 + 1)), (0, gA n0 190), (4, gJ v14)]) X 2 dX12_road_205 rfl rfl (by decide) rfl rfl ?_
                      refine g_goto (tgt := 181) X dX12_road_208 (by decide) ?_
                      refine G.sub (L' := [(0, gA n0 190), (4, gJ v14), (5, gJ (v1216 + 1))]) [1, 2, 0] rfl ?_
                      exact ih1284 (v1216 + 1) M1288 (by omega) IM1288 CM1288 (gFr.s (gFr.c gFr.rf FM1217 rfl) e1289 (rs_ROAD (k := v1216 + 24) (by omega)).2.2 rfl) (fun k h0 h1 => if g : k = v1216 then (by rw [g, e1289, show v1216 + 24 = v1216 + 24 by omega, gset_eq]; exact (hv1287).symm.trans (gFr.at ((gFr.c gFr.rf FM1217 rfl) : gFr 70368744177664 M16 M1217) (ra_194 v1216).2.2 rfl)) else (by rw [e1289, gset_ne (by omega)]; exact hK k h0 (by omega))) (by omega)
                refine G.sub (L' := [(0, gA n0 190), (4, gJ v14), (5, gJ 0)]) [1, 5, 0] rfl ?_
                exact j1218 _ 0 M16 (by omega) IM16 CM16 gFr.rf (fun k h0 h1 => by exfalso; omega) (Nat.lt_succ_self _)
              · refine g_iconst (n := 48) X dX12_road_47 rfl ?_
                refine g_istore (n := 50) (L' := [(6, gJ 0), (0, gA n0 190), (1, gJ a), (2, gJ b), (3, gJ c), (4, gJ v14), (5, gJ v15)]) X dX12_road_48 (by decide) rfl rfl ?_
                have j1293 : ∀ (N1474 : Nat) (v1290 v1291 : Int) (M1292 : gM) , (0 ≤ v1290 ∧ v1290 ≤ 1) → (0 ≤ v1291 ∧ v1291 ≤ 6) → gI sz M1292 → gC sz M1292 → gFr 36893488147419103232 M16 M1292 → (gPt (M1292 194) (gWRf M) a b c (v15 * 6 + v1291)) → (gCh (gWRf M) a b c (v15 * 6 + v1291) v1290) → (6 - v1291).toNat < N1474 → G p l e R_s_X12_road2 s m args below meth cd n0 D cA 10 Q 0 0 M1292 sz 50 [(0, gA n0 190), (1, gJ a), (2, gJ b), (3, gJ c), (4, gJ v1290), (5, gJ v15), (6, gJ v1291)] [] := by
                  intro N1474; induction N1474 with
                  | zero => intro v1290 v1291 M1292 rv1290 rv1291 IM1292 CM1292 FM1292 hQ hD hm1476; exfalso; omega
                  | succ N1474 ih1475 =>
                    intro v1290 v1291 M1292 rv1290 rv1291 IM1292 CM1292 FM1292 hQ hD hm1476
                    refine g_iload (n := 52) X 6 dX12_road_50 rfl rfl ?_
                    refine g_bipush (n := 54) X dX12_road_52 (by decide +kernel) rfl ?_
                    refine g_icmp_ge (n := 57) (tgt := 172) X dX12_road_54 (by decide) (by omega) (by omega) rfl (fun c1477 => ?_) (fun c1477 => ?_)
                    · refine g_iinc (n := 175) (w := v15 + 1) (L' := [(5, gJ (v15 + 1)), (0, gA n0 190), (1, gJ a), (2, gJ b), (3, gJ c), (4, gJ v1290), (6, gJ v1291)]) X 5 dX12_road_172 rfl rfl (by decide) rfl rfl ?_
                      refine g_goto (tgt := 40) X dX12_road_175 (by decide) ?_
                      refine G.sub (L' := [(0, gA n0 190), (1, gJ a), (2, gJ b), (3, gJ c), (4, gJ v1290), (5, gJ (v15 + 1))]) [1, 2, 3, 4, 5, 0] rfl ?_
                      exact ih1213 v1290 (v15 + 1) M1292 (by omega) (by omega) IM1292 CM1292 (gFr.c (gFr.c gFr.rf FM16 rfl) FM1292 rfl) (by rw [show (v15 + 1) * 6 = v15 * 6 + v1291 by omega]; exact hQ) (by rw [show (v15 + 1) * 6 = v15 * 6 + v1291 by omega]; exact hD) (by omega)
                    · refine g_aload_n (n := 58) X 0 dX12_road_57 rfl rfl rfl ?_
                      refine g_iload (n := 60) X 5 dX12_road_58 rfl rfl ?_
                      refine g_iload_n (n := 61) X 1 dX12_road_60 rfl rfl rfl ?_
                      refine g_callVi (n := 64) (As := [gJ v15, gJ a]) (rest := []) (cs1 := 0) (ss1 := 0) X (s_X12_farOf2 v15 (by omega) a (by omega) hsz IM1292 CM1292 ) okX12_farOf kw_6_113 ⟨kw_6_115, kw_0_39⟩ ⟨rfl, rfl⟩ ⟨Nat.le_of_ble_eq_true rfl, Nat.le_of_ble_eq_true rfl⟩ rfl (by decide) (gsz hsz (by decide)) lay_190 rfl rfl (Nat.le_of_ble_eq_true rfl) ⟨Nat.le_of_ble_eq_true rfl, Nat.le_of_ble_eq_true rfl⟩ rfl rfl dX12_road_61 rfl (fun v1478 M1479 P1480 => ?_)
                      obtain ⟨rfl, rv1478, xv1478⟩ := P1480
                      refine g_iload_n (n := 65) X 3 dX12_road_64 rfl rfl rfl ?_
                      refine g_iadd (n := 66) (z := v1478 + c) X dX12_road_65 rfl rfl ?_
                      refine g_aload_n (n := 67) X 0 dX12_road_66 rfl rfl rfl ?_
                      refine g_iload_n (n := 68) X 2 dX12_road_67 rfl rfl rfl ?_
                      refine g_iload (n := 70) X 6 dX12_road_68 rfl rfl ?_
                      refine g_callVi (n := 73) (As := [gJ b, gJ v1291]) (rest := [gJ (v1478 + c)]) (cs1 := 0) (ss1 := 0) X (s_X12_farOf2 b (by omega) v1291 (by omega) hsz IM1292 CM1292 ) okX12_farOf kw_6_113 ⟨kw_6_115, kw_0_39⟩ ⟨rfl, rfl⟩ ⟨Nat.le_of_ble_eq_true rfl, Nat.le_of_ble_eq_true rfl⟩ rfl (by decide) (gsz hsz (by decide)) lay_190 rfl rfl (Nat.le_of_ble_eq_true rfl) ⟨Nat.le_of_ble_eq_true rfl, Nat.le_of_ble_eq_true rfl⟩ rfl rfl dX12_road_70 rfl (fun v1481 M1482 P1483 => ?_)
                      obtain ⟨rfl, rv1481, xv1481⟩ := P1483
                      refine g_iadd (n := 74) (z := (v1478 + c) + v1481) X dX12_road_73 rfl rfl ?_
                      refine g_istore (n := 76) (L' := [(7, gJ ((v1478 + c) + v1481)), (0, gA n0 190), (1, gJ a), (2, gJ b), (3, gJ c), (4, gJ v1290), (5, gJ v15), (6, gJ v1291)]) X dX12_road_74 (by decide) rfl rfl ?_
                      refine g_aload_n (n := 77) X 1 dX12_road_76 rfl rfl rfl ?_
                      refine g_iload (n := 79) X 6 dX12_road_77 rfl rfl ?_
                      refine g_iload_n (n := 80) X 3 dX12_road_79 rfl rfl rfl ?_
                      refine g_callVi (n := 83) (As := [gJ v15, gJ b]) (rest := []) (cs1 := 0) (ss1 := 0) X (s_X12_farOf2 v15 (by omega) b (by omega) hsz IM1292 CM1292 ) okX12_farOf kw_6_113 ⟨kw_6_115, kw_0_39⟩ ⟨rfl, rfl⟩ ⟨Nat.le_of_ble_eq_true rfl, Nat.le_of_ble_eq_true rfl⟩ rfl (by decide) (gsz hsz (by decide)) lay_190 rfl rfl (Nat.le_of_ble_eq_true rfl) ⟨Nat.le_of_ble_eq_true rfl, Nat.le_of_ble_eq_true rfl⟩ rfl rfl dX12_road_80 rfl (fun v1484 M1485 P1486 => ?_)
                      obtain ⟨rfl, rv1484, xv1484⟩ := P1486
                      refine g_iload_n (n := 84) X 4 dX12_road_83 rfl rfl rfl ?_
                      refine g_iadd (n := 85) (z := v1484 + c) X dX12_road_84 rfl rfl ?_
                      refine g_aload_n (n := 86) X 1 dX12_road_85 rfl rfl rfl ?_
                      refine g_iload_n (n := 87) X 2 dX12_road_86 rfl rfl rfl ?_
                      refine g_iload (n := 89) X 7 dX12_road_87 rfl rfl ?_
                      refine g_callVi (n := 92) (As := [gJ a, gJ v1291]) (rest := [gJ (v1484 + c)]) (cs1 := 0) (ss1 := 0) X (s_X12_farOf2 a (by omega) v1291 (by omega) hsz IM1292 CM1292 ) okX12_farOf kw_6_113 ⟨kw_6_115, kw_0_39⟩ ⟨rfl, rfl⟩ ⟨Nat.le_of_ble_eq_true rfl, Nat.le_of_ble_eq_true rfl⟩ rfl (by decide) (gsz hsz (by decide)) lay_190 rfl rfl (Nat.le_of_ble_eq_true rfl) ⟨Nat.le_of_ble_eq_true rfl, Nat.le_of_ble_eq_true rfl⟩ rfl rfl dX12_road_89 rfl (fun v1487 M1488 P1489 => ?_)
                      obtain ⟨rfl, rv1487, xv1487⟩ := P1489
                      refine g_iadd (n := 93) (z := (v1484 + c) + v1487) X dX12_road_92 rfl rfl ?_
                      refine g_istore (n := 95) (L' := [(8, gJ ((v1484 + c) + v1487)), (7, gJ ((v1478 + c) + v1481)), (0, gA n0 190), (1, gJ a), (2, gJ b), (3, gJ c), (4, gJ v1290), (5, gJ v15), (6, gJ v1291)]) X dX12_road_93 (by decide) rfl rfl ?_
                      refine g_iload (n := 97) X 1 dX12_road_95 rfl rfl ?_
                      refine g_iload (n := 99) X 0 dX12_road_97 rfl rfl ?_
                      refine g_icmp_ge (n := 102) (tgt := 107) X dX12_road_99 (by decide) (by omega) (by omega) rfl (fun c1490 => ?_) (fun c1490 => ?_)
                      · refine g_iload (n := 109) X 0 dX12_road_107 rfl rfl ?_
                        refine g_istore (n := 111) (L' := [(9, gJ ((v1484 + c) + v1487)), (8, gJ ((v1484 + c) + v1487)), (7, gJ ((v1478 + c) + v1481)), (0, gA n0 190), (1, gJ a), (2, gJ b), (3, gJ c), (4, gJ v1290), (5, gJ v15), (6, gJ v1291)]) X dX12_road_109 (by decide) rfl rfl ?_
                        refine g_iload (n := 113) X 0 dX12_road_111 rfl rfl ?_
                        refine g_aload_n (n := 114) X 3 dX12_road_113 rfl rfl rfl ?_
                        refine g_iload (n := 116) X 8 dX12_road_114 rfl rfl ?_
                        refine g_iload (n := 118) X 9 dX12_road_116 rfl rfl ?_
                        refine g_callVi (n := 121) (As := [gJ v15, gJ v1291]) (rest := [gJ ((v1484 + c) + v1487)]) (cs1 := 0) (ss1 := 0) X (s_X12_farOf2 v15 (by omega) v1291 (by omega) hsz IM1292 CM1292 ) okX12_farOf kw_6_113 ⟨kw_6_115, kw_0_39⟩ ⟨rfl, rfl⟩ ⟨Nat.le_of_ble_eq_true rfl, Nat.le_of_ble_eq_true rfl⟩ rfl (by decide) (gsz hsz (by decide)) lay_190 rfl rfl (Nat.le_of_ble_eq_true rfl) ⟨Nat.le_of_ble_eq_true rfl, Nat.le_of_ble_eq_true rfl⟩ rfl rfl dX12_road_118 rfl (fun v1491 M1492 P1493 => ?_)
                        obtain ⟨rfl, rv1491, xv1491⟩ := P1493
                        have fr1 : gWRf M (v15 * 6 + a) = v1478 := by rw [xv1478, ((((fun b h0 h1 => ((gFr.s191 FM1292 rfl b).trans ((gFr.s191 FM16 rfl b).trans rfl)))) : ∀ b : Int, 0 ≤ b → b < 25301 → M1292 191 b = M 191 b) (24 + 6 * v15 + a) (by omega) (by omega))]; show M 191 _ = M 191 _; rw [show v15 * 6 + a + 24 = 24 + 6 * v15 + a by omega]
                        have fr2 : gWRf M (b * 6 + v1291) = v1481 := by rw [xv1481, ((((fun b h0 h1 => ((gFr.s191 FM1292 rfl b).trans ((gFr.s191 FM16 rfl b).trans rfl)))) : ∀ b : Int, 0 ≤ b → b < 25301 → M1292 191 b = M 191 b) (24 + 6 * b + v1291) (by omega) (by omega))]; show M 191 _ = M 191 _; rw [show b * 6 + v1291 + 24 = 24 + 6 * b + v1291 by omega]
                        have fr3 : gWRf M (v15 * 6 + b) = v1484 := by rw [xv1484, ((((fun b h0 h1 => ((gFr.s191 FM1292 rfl b).trans ((gFr.s191 FM16 rfl b).trans rfl)))) : ∀ b : Int, 0 ≤ b → b < 25301 → M1292 191 b = M 191 b) (24 + 6 * v15 + b) (by omega) (by omega))]; show M 191 _ = M 191 _; rw [show v15 * 6 + b + 24 = 24 + 6 * v15 + b by omega]
                        have fr4 : gWRf M (a * 6 + v1291) = v1487 := by rw [xv1487, ((((fun b h0 h1 => ((gFr.s191 FM1292 rfl b).trans ((gFr.s191 FM16 rfl b).trans rfl)))) : ∀ b : Int, 0 ≤ b → b < 25301 → M1292 191 b = M 191 b) (24 + 6 * a + v1291) (by omega) (by omega))]; show M 191 _ = M 191 _; rw [show a * 6 + v1291 + 24 = 24 + 6 * a + v1291 by omega]
                        have fr5 : gWRf M (v15 * 6 + v1291) = v1491 := by rw [xv1491, ((((fun b h0 h1 => ((gFr.s191 FM1292 rfl b).trans ((gFr.s191 FM16 rfl b).trans rfl)))) : ∀ b : Int, 0 ≤ b → b < 25301 → M1292 191 b = M 191 b) (24 + 6 * v15 + v1291) (by omega) (by omega))]; show M 191 _ = M 191 _; rw [show v15 * 6 + v1291 + 24 = 24 + 6 * v15 + v1291 by omega]
                        have sp := gN_spec (gWRf M) a b c v15 v1291
                        rw [fr1, fr2, fr3, fr4, fr5] at sp
                        refine g_icmp_ge (n := 124) (tgt := 145) X dX12_road_121 (by decide) (by omega) (by omega) rfl (fun c1494 => ?_) (fun c1494 => ?_)
                        · refine g_aload_n (n := 146) X 3 dX12_road_145 rfl rfl rfl ?_
                          refine gg_12_5 (n := 149) (z := 194) X (by decide) (gsz hsz (by decide)) lay_190 kw_6_31 dX12_road_146 rfl (rf_190_5 IM1292 (gsz hsz (by decide))) (by decide) ?_
                          refine g_bipush (n := 151) X dX12_road_149 (by decide +kernel) rfl ?_
                          refine g_iload (n := 153) X 8 dX12_road_151 rfl rfl ?_
                          refine g_imul (n := 154) (z := 6 * v15) X dX12_road_153 rfl rfl ?_
                          refine g_iload (n := 156) X 9 dX12_road_154 rfl rfl ?_
                          refine g_iadd (n := 157) (z := (6 * v15) + v1291) X dX12_road_156 rfl rfl ?_
                          refine g_aload_n (n := 158) X 3 dX12_road_157 rfl rfl rfl ?_
                          refine g_iload (n := 160) X 8 dX12_road_158 rfl rfl ?_
                          refine g_iload (n := 162) X 9 dX12_road_160 rfl rfl ?_
                          refine g_callVi (n := 165) (As := [gJ v15, gJ v1291]) (rest := [gJ ((6 * v15) + v1291), gA n0 194]) (cs1 := 0) (ss1 := 0) X (s_X12_farOf2 v15 (by omega) v1291 (by omega) hsz IM1292 CM1292 ) okX12_farOf kw_6_113 ⟨kw_6_115, kw_0_39⟩ ⟨rfl, rfl⟩ ⟨Nat.le_of_ble_eq_true rfl, Nat.le_of_ble_eq_true rfl⟩ rfl (by decide) (gsz hsz (by decide)) lay_190 rfl rfl (Nat.le_of_ble_eq_true rfl) ⟨Nat.le_of_ble_eq_true rfl, Nat.le_of_ble_eq_true rfl⟩ rfl rfl dX12_road_162 rfl (fun v1495 M1496 P1497 => ?_)
                          obtain ⟨rfl, rv1495, xv1495⟩ := P1497
                          refine g_iast (n := 166) X (by decide) (gsz hsz (by decide)) lay_194 (by omega) (by omega) (by decide) dX12_road_165 rfl ?_
                          refine G.nm (fun M1498 e1499 => ?_)
                          have IM1498 : gI sz M1498 := gI.set IM1292 (ra_194 ((6 * v15) + v1291)).1 (by omega) e1499
                          have CM1498 : gC sz M1498 := gC.set CM1292 (ra_194 ((6 * v15) + v1291)).2.1 e1499
                          refine g_iinc (n := 169) (w := v1291 + 1) (L' := [(6, gJ (v1291 + 1)), (9, gJ ((v1484 + c) + v1487)), (8, gJ ((v1484 + c) + v1487)), (7, gJ ((v1478 + c) + v1481)), (0, gA n0 190), (1, gJ a), (2, gJ b), (3, gJ c), (4, gJ v1290), (5, gJ v15)]) X 9 dX12_road_166 rfl rfl (by decide) rfl rfl ?_
                          refine g_goto (tgt := 50) X dX12_road_169 (by decide) ?_
                          refine G.sub (L' := [(0, gA n0 190), (1, gJ a), (2, gJ b), (3, gJ c), (4, gJ v1290), (5, gJ v15), (6, gJ (v1291 + 1))]) [4, 5, 6, 7, 8, 9, 0] rfl ?_
                          exact ih1475 v1290 (v1291 + 1) M1498 (by omega) (by omega) IM1498 CM1498 (gFr.s (gFr.c gFr.rf FM1292 rfl) e1499 (ra_194 ((6 * v15) + v1291)).2.2 rfl) (gPt.next (x := v15) (y := v1291) hQ (by omega) (by omega) (by omega) (by omega) rfl (by omega) (fun k h0 h1 => by rw [e1499, gset_ne (by omega)]) (by rw [e1499, show v15 * 6 + v1291 = (6 * v15) + v1291 by omega, gset_eq]; omega)) (by first | exact gCh.no (x := v15) (y := v1291) hD (by omega) (by omega) (by omega) (by omega) rfl (by omega) (by rw [fr5]; omega) | exact gCh.yes (x := v15) (y := v1291) (by omega) (by omega) (by omega) (by omega) (by omega) (by rw [fr5]; omega) (by omega)) (by omega)
                        · refine g_iconst (n := 125) X dX12_road_124 rfl ?_
                          refine g_istore (n := 127) (L' := [(4, gJ 1), (9, gJ ((v1484 + c) + v1487)), (8, gJ ((v1484 + c) + v1487)), (7, gJ ((v1478 + c) + v1481)), (0, gA n0 190), (1, gJ a), (2, gJ b), (3, gJ c), (5, gJ v15), (6, gJ v1291)]) X dX12_road_125 (by decide) rfl rfl ?_
                          refine g_aload_n (n := 128) X 4 dX12_road_127 rfl rfl rfl ?_
                          refine gg_12_5 (n := 131) (z := 194) X (by decide) (gsz hsz (by decide)) lay_190 kw_6_31 dX12_road_128 rfl (rf_190_5 IM1292 (gsz hsz (by decide))) (by decide) ?_
                          refine g_bipush (n := 133) X dX12_road_131 (by decide +kernel) rfl ?_
                          refine g_iload (n := 135) X 8 dX12_road_133 rfl rfl ?_
                          refine g_imul (n := 136) (z := 6 * v15) X dX12_road_135 rfl rfl ?_
                          refine g_iload (n := 138) X 9 dX12_road_136 rfl rfl ?_
                          refine g_iadd (n := 139) (z := (6 * v15) + v1291) X dX12_road_138 rfl rfl ?_
                          refine g_iload (n := 141) X 1 dX12_road_139 rfl rfl ?_
                          refine g_iast (n := 142) X (by decide) (gsz hsz (by decide)) lay_194 (by omega) (by omega) (by decide) dX12_road_141 rfl ?_
                          refine G.nm (fun M1500 e1501 => ?_)
                          have IM1500 : gI sz M1500 := gI.set IM1292 (ra_194 ((6 * v15) + v1291)).1 (by omega) e1501
                          have CM1500 : gC sz M1500 := gC.set CM1292 (ra_194 ((6 * v15) + v1291)).2.1 e1501
                          refine g_goto (tgt := 166) X dX12_road_142 (by decide) ?_
                          refine g_iinc (n := 169) (w := v1291 + 1) (L' := [(6, gJ (v1291 + 1)), (4, gJ 1), (9, gJ ((v1484 + c) + v1487)), (8, gJ ((v1484 + c) + v1487)), (7, gJ ((v1478 + c) + v1481)), (0, gA n0 190), (1, gJ a), (2, gJ b), (3, gJ c), (5, gJ v15)]) X 9 dX12_road_166 rfl rfl (by decide) rfl rfl ?_
                          refine g_goto (tgt := 50) X dX12_road_169 (by decide) ?_
                          refine G.sub (L' := [(0, gA n0 190), (1, gJ a), (2, gJ b), (3, gJ c), (4, gJ 1), (5, gJ v15), (6, gJ (v1291 + 1))]) [5, 6, 7, 8, 1, 9, 0] rfl ?_
                          exact ih1475 1 (v1291 + 1) M1500 (by omega) (by omega) IM1500 CM1500 (gFr.s (gFr.c gFr.rf FM1292 rfl) e1501 (ra_194 ((6 * v15) + v1291)).2.2 rfl) (gPt.next (x := v15) (y := v1291) hQ (by omega) (by omega) (by omega) (by omega) rfl (by omega) (fun k h0 h1 => by rw [e1501, gset_ne (by omega)]) (by rw [e1501, show v15 * 6 + v1291 = (6 * v15) + v1291 by omega, gset_eq]; omega)) (by first | exact gCh.no (x := v15) (y := v1291) hD (by omega) (by omega) (by omega) (by omega) rfl (by omega) (by rw [fr5]; omega) | exact gCh.yes (x := v15) (y := v1291) (by omega) (by omega) (by omega) (by omega) (by omega) (by rw [fr5]; omega) (by omega)) (by omega)
                      · refine g_iload (n := 104) X 1 dX12_road_102 rfl rfl ?_
                        refine g_goto (tgt := 109) X dX12_road_104 (by decide) ?_
                        refine g_istore (n := 111) (L' := [(9, gJ ((v1478 + c) + v1481)), (8, gJ ((v1484 + c) + v1487)), (7, gJ ((v1478 + c) + v1481)), (0, gA n0 190), (1, gJ a), (2, gJ b), (3, gJ c), (4, gJ v1290), (5, gJ v15), (6, gJ v1291)]) X dX12_road_109 (by decide) rfl rfl ?_
                        refine g_iload (n := 113) X 0 dX12_road_111 rfl rfl ?_
                        refine g_aload_n (n := 114) X 3 dX12_road_113 rfl rfl rfl ?_
                        refine g_iload (n := 116) X 8 dX12_road_114 rfl rfl ?_
                        refine g_iload (n := 118) X 9 dX12_road_116 rfl rfl ?_
                        refine g_callVi (n := 121) (As := [gJ v15, gJ v1291]) (rest := [gJ ((v1478 + c) + v1481)]) (cs1 := 0) (ss1 := 0) X (s_X12_farOf2 v15 (by omega) v1291 (by omega) hsz IM1292 CM1292 ) okX12_farOf kw_6_113 ⟨kw_6_115, kw_0_39⟩ ⟨rfl, rfl⟩ ⟨Nat.le_of_ble_eq_true rfl, Nat.le_of_ble_eq_true rfl⟩ rfl (by decide) (gsz hsz (by decide)) lay_190 rfl rfl (Nat.le_of_ble_eq_true rfl) ⟨Nat.le_of_ble_eq_true rfl, Nat.le_of_ble_eq_true rfl⟩ rfl rfl dX12_road_118 rfl (fun v1502 M1503 P1504 => ?_)
                        obtain ⟨rfl, rv1502, xv1502⟩ := P1504
                        have fr1 : gWRf M (v15 * 6 + a) = v1478 := by rw [xv1478, ((((fun b h0 h1 => ((gFr.s191 FM1292 rfl b).trans ((gFr.s191 FM16 rfl b).trans rfl)))) : ∀ b : Int, 0 ≤ b → b < 25301 → M1292 191 b = M 191 b) (24 + 6 * v15 + a) (by omega) (by omega))]; show M 191 _ = M 191 _; rw [show v15 * 6 + a + 24 = 24 + 6 * v15 + a by omega]
                        have fr2 : gWRf M (b * 6 + v1291) = v1481 := by rw [xv1481, ((((fun b h0 h1 => ((gFr.s191 FM1292 rfl b).trans ((gFr.s191 FM16 rfl b).trans rfl)))) : ∀ b : Int, 0 ≤ b → b < 25301 → M1292 191 b = M 191 b) (24 + 6 * b + v1291) (by omega) (by omega))]; show M 191 _ = M 191 _; rw [show b * 6 + v1291 + 24 = 24 + 6 * b + v1291 by omega]
                        have fr3 : gWRf M (v15 * 6 + b) = v1484 := by rw [xv1484, ((((fun b h0 h1 => ((gFr.s191 FM1292 rfl b).trans ((gFr.s191 FM16 rfl b).trans rfl)))) : ∀ b : Int, 0 ≤ b → b < 25301 → M1292 191 b = M 191 b) (24 + 6 * v15 + b) (by omega) (by omega))]; show M 191 _ = M 191 _; rw [show v15 * 6 + b + 24 = 24 + 6 * v15 + b by omega]
                        have fr4 : gWRf M (a * 6 + v1291) = v1487 := by rw [xv1487, ((((fun b h0 h1 => ((gFr.s191 FM1292 rfl b).trans ((gFr.s191 FM16 rfl b).trans rfl)))) : ∀ b : Int, 0 ≤ b → b < 25301 → M1292 191 b = M 191 b) (24 + 6 * a + v1291) (by omega) (by omega))]; show M 191 _ = M 191 _; rw [show a * 6 + v1291 + 24 = 24 + 6 * a + v1291 by omega]
                        have fr5 : gWRf M (v15 * 6 + v1291) = v1502 := by rw [xv1502, ((((fun b h0 h1 => ((gFr.s191 FM1292 rfl b).trans ((gFr.s191 FM16 rfl b).trans rfl)))) : ∀ b : Int, 0 ≤ b → b < 25301 → M1292 191 b = M 191 b) (24 + 6 * v15 + v1291) (by omega) (by omega))]; show M 191 _ = M 191 _; rw [show v15 * 6 + v1291 + 24 = 24 + 6 * v15 + v1291 by omega]
                        have sp := gN_spec (gWRf M) a b c v15 v1291
                        rw [fr1, fr2, fr3, fr4, fr5] at sp
                        refine g_icmp_ge (n := 124) (tgt := 145) X dX12_road_121 (by decide) (by omega) (by omega) rfl (fun c1505 => ?_) (fun c1505 => ?_)
                        · refine g_aload_n (n := 146) X 3 dX12_road_145 rfl rfl rfl ?_
                          refine gg_12_5 (n := 149) (z := 194) X (by decide) (gsz hsz (by decide)) lay_190 kw_6_31 dX12_road_146 rfl (rf_190_5 IM1292 (gsz hsz (by decide))) (by decide) ?_
                          refine g_bipush (n := 151) X dX12_road_149 (by decide +kernel) rfl ?_
                          refine g_iload (n := 153) X 8 dX12_road_151 rfl rfl ?_
                          refine g_imul (n := 154) (z := 6 * v15) X dX12_road_153 rfl rfl ?_
                          refine g_iload (n := 156) X 9 dX12_road_154 rfl rfl ?_
                          refine g_iadd (n := 157) (z := (6 * v15) + v1291) X dX12_road_156 rfl rfl ?_
                          refine g_aload_n (n := 158) X 3 dX12_road_157 rfl rfl rfl ?_
                          refine g_iload (n := 160) X 8 dX12_road_158 rfl rfl ?_
                          refine g_iload (n := 162) X 9 dX12_road_160 rfl rfl ?_
                          refine g_callVi (n := 165) (As := [gJ v15, gJ v1291]) (rest := [gJ ((6 * v15) + v1291), gA n0 194]) (cs1 := 0) (ss1 := 0) X (s_X12_farOf2 v15 (by omega) v1291 (by omega) hsz IM1292 CM1292 ) okX12_farOf kw_6_113 ⟨kw_6_115, kw_0_39⟩ ⟨rfl, rfl⟩ ⟨Nat.le_of_ble_eq_true rfl, Nat.le_of_ble_eq_true rfl⟩ rfl (by decide) (gsz hsz (by decide)) lay_190 rfl rfl (Nat.le_of_ble_eq_true rfl) ⟨Nat.le_of_ble_eq_true rfl, Nat.le_of_ble_eq_true rfl⟩ rfl rfl dX12_road_162 rfl (fun v1506 M1507 P1508 => ?_)
                          obtain ⟨rfl, rv1506, xv1506⟩ := P1508
                          refine g_iast (n := 166) X (by decide) (gsz hsz (by decide)) lay_194 (by omega) (by omega) (by decide) dX12_road_165 rfl ?_
                          refine G.nm (fun M1509 e1510 => ?_)
                          have IM1509 : gI sz M1509 := gI.set IM1292 (ra_194 ((6 * v15) + v1291)).1 (by omega) e1510
                          have CM1509 : gC sz M1509 := gC.set CM1292 (ra_194 ((6 * v15) + v1291)).2.1 e1510
                          refine g_iinc (n := 169) (w := v1291 + 1) (L' := [(6, gJ (v1291 + 1)), (9, gJ ((v1478 + c) + v1481)), (8, gJ ((v1484 + c) + v1487)), (7, gJ ((v1478 + c) + v1481)), (0, gA n0 190), (1, gJ a), (2, gJ b), (3, gJ c), (4, gJ v1290), (5, gJ v15)]) X 9 dX12_road_166 rfl rfl (by decide) rfl rfl ?_
                          refine g_goto (tgt := 50) X dX12_road_169 (by decide) ?_
                          refine G.sub (L' := [(0, gA n0 190), (1, gJ a), (2, gJ b), (3, gJ c), (4, gJ v1290), (5, gJ v15), (6, gJ (v1291 + 1))]) [4, 5, 6, 7, 8, 9, 0] rfl ?_
                          exact ih1475 v1290 (v1291 + 1) M1509 (by omega) (by omega) IM1509 CM1509 (gFr.s (gFr.c gFr.rf FM1292 rfl) e1510 (ra_194 ((6 * v15) + v1291)).2.2 rfl) (gPt.next (x := v15) (y := v1291) hQ (by omega) (by omega) (by omega) (by omega) rfl (by omega) (fun k h0 h1 => by rw [e1510, gset_ne (by omega)]) (by rw [e1510, show v15 * 6 + v1291 = (6 * v15) + v1291 by omega, gset_eq]; omega)) (by first | exact gCh.no (x := v15) (y := v1291) hD (by omega) (by omega) (by omega) (by omega) rfl (by omega) (by rw [fr5]; omega) | exact gCh.yes (x := v15) (y := v1291) (by omega) (by omega) (by omega) (by omega) (by omega) (by rw [fr5]; omega) (by omega)) (by omega)
                        · refine g_iconst (n := 125) X dX12_road_124 rfl ?_
                          refine g_istore (n := 127) (L' := [(4, gJ 1), (9, gJ ((v1478 + c) + v1481)), (8, gJ ((v1484 + c) + v1487)), (7, gJ ((v1478 + c) + v1481)), (0, gA n0 190), (1, gJ a), (2, gJ b), (3, gJ c), (5, gJ v15), (6, gJ v1291)]) X dX12_road_125 (by decide) rfl rfl ?_
                          refine g_aload_n (n := 128) X 4 dX12_road_127 rfl rfl rfl ?_
                          refine gg_12_5 (n := 131) (z := 194) X (by decide) (gsz hsz (by decide)) lay_190 kw_6_31 dX12_road_128 rfl (rf_190_5 IM1292 (gsz hsz (by decide))) (by decide) ?_
                          refine g_bipush (n := 133) X dX12_road_131 (by decide +kernel) rfl ?_
                          refine g_iload (n := 135) X 8 dX12_road_133 rfl rfl ?_
                          refine g_imul (n := 136) (z := 6 * v15) X dX12_road_135 rfl rfl ?_
                          refine g_iload (n := 138) X 9 dX12_road_136 rfl rfl ?_
                          refine g_iadd (n := 139) (z := (6 * v15) + v1291) X dX12_road_138 rfl rfl ?_
                          refine g_iload (n := 141) X 1 dX12_road_139 rfl rfl ?_
                          refine g_iast (n := 142) X (by decide) (gsz hsz (by decide)) lay_194 (by omega) (by omega) (by decide) dX12_road_141 rfl ?_
                          refine G.nm (fun M1511 e1512 => ?_)
                          have IM1511 : gI sz M1511 := gI.set IM1292 (ra_194 ((6 * v15) + v1291)).1 (by omega) e1512
                          have CM1511 : gC sz M1511 := gC.set CM1292 (ra_194 ((6 * v15) + v1291)).2.1 e1512
                          refine g_goto (tgt := 166) X dX12_road_142 (by decide) ?_
                          refine g_iinc (n := 169) (w := v1291 + 1) (L' := [(6, gJ (v1291 + 1)), (4, gJ 1), (9, gJ ((v1478 + c) + v1481)), (8, gJ ((v1484 + c) + v1487)), (7, gJ ((v1478 + c) + v1481)), (0, gA n0 190), (1, gJ a), (2, gJ b), (3, gJ c), (5, gJ v15)]) X 9 dX12_road_166 rfl rfl (by decide) rfl rfl ?_
                          refine g_goto (tgt := 50) X dX12_road_169 (by decide) ?_
                          refine G.sub (L' := [(0, gA n0 190), (1, gJ a), (2, gJ b), (3, gJ c), (4, gJ 1), (5, gJ v15), (6, gJ (v1291 + 1))]) [5, 6, 7, 8, 1, 9, 0] rfl ?_
                          exact ih1475 1 (v1291 + 1) M1511 (by omega) (by omega) IM1511 CM1511 (gFr.s (gFr.c gFr.rf FM1292 rfl) e1512 (ra_194 ((6 * v15) + v1291)).2.2 rfl) (gPt.next (x := v15) (y := v1291) hQ (by omega) (by omega) (by omega) (by omega) rfl (by omega) (fun k h0 h1 => by rw [e1512, gset_ne (by omega)]) (by rw [e1512, show v15 * 6 + v1291 = (6 * v15) + v1291 by omega, gset_eq]; omega)) (by first | exact gCh.no (x := v15) (y := v1291) hD (by omega) (by omega) (by omega) (by omega) rfl (by omega) (by rw [fr5]; omega) | exact gCh.yes (x := v15) (y := v1291) (by omega) (by omega) (by omega) (by omega) (by omega) (by rw [fr5]; omega) (by omega)) (by omega)
                refine G.sub (L' := [(0, gA n0 190), (1, gJ a), (2, gJ b), (3, gJ c), (4, gJ v14), (5, gJ v15), (6, gJ 0)]) [1, 2, 3, 4, 5, 6, 0] rfl ?_
                exact j1293 _ v14 0 M16 (by omega) (by omega) IM16 CM16 gFr.rf (by rw [show v15 * 6 + 0 = v15 * 6 by omega]; exact hP) (by rw [show v15 * 6 + 0 = v15 * 6 by omega]; exact hC) (Nat.lt_succ_self _)
          refine G.sub (L' := [(0, gA n0 190), (1, gJ a), (2, gJ b), (3, gJ c), (4, gJ 0), (5, gJ 0)]) [2, 3, 4, 5, 1, 0] rfl ?_
          exact j17 _ 0 0 M (by omega) (by omega) I C gFr.rf (fun x y x0 x1 y0 y1 g => by exfalso; omega) (gCh.z (by omega) rfl) (Nat.lt_succ_self _)
        · refine g_bipush (n := 33) X dX12_road_31 (by decide +kernel) rfl ?_
          exact hq _ _ _ _ dX12_road_33 ⟨by omega, I, C, gFr.rf, Or.inl ⟨by omega, fun k => rfl⟩⟩
    · refine g_iconst (n := 15) X dX12_road_14 rfl ?_
      exact hq _ _ _ _ dX12_road_15 ⟨by omega, I, C, gFr.rf, Or.inl ⟨by omega, fun k => rfl⟩⟩
abbrev R_s_X11_far2 : Room := { frames := 2, cells := 0, slots := 0, locals := 42 }
set_option maxRecDepth 100000 in
set_option maxHeartbeats 4000000 in
theorem s_X11_far2 {l : Launch} {n0 : Nat} {D : va_G} {cA : Nat → ClassId} {M : gM} (a : Int) (r_a : -2147483648 ≤ a ∧ a ≤ 2147483647) (b : Int) (r_b : -2147483648 ≤ b ∧ b ≤ 2147483647) {sz : Nat} (hsz : 206 ≤ sz) (I : gI sz M) (C : gC sz M)   : Met l yX11_far (gWsOf yX11_far cX11_far 3 (Option.some Jvm.ClassFile.FieldType.int)) R_s_X11_far2 (gPc n0 D cA [gA n0 0, gJ a, gJ b] M sz) (gQi n0 D cA sz (fun z M1 => M = M1 ∧ (-1 ≤ z ∧ z ≤ 99) ∧ ((¬ ((0 ≤ a ∧ a ≤ 5) ∧ (0 ≤ b ∧ b ≤ 5)) ∧ z = -1) ∨ (((0 ≤ a ∧ a ≤ 5) ∧ (0 ≤ b ∧ b ≤ 5)) ∧ z = M 4 (a * 6 + b))))) 0 0 (fun q => n0 ≤ q) := by
  refine gMetI [gA n0 0, gJ a, gJ b] (by decide) (Nat.le_of_ble_eq_true rfl) ⟨rfl, rfl⟩ ?_
  intro p e s m args below meth cd Q X hq
  have X : gCx p s m args meth cd n0 D cA "ParishUnion" cX11_far 3 := X
  show G p l e R_s_X11_far2 s m args below meth cd n0 D cA 3 Q 0 0 M sz 0 [(0, gA n0 0), (1, gJ a), (2, gJ b)] []
  refine g_iload_n (n := 1) X 1 dX11_far_0 rfl rfl rfl ?_
  refine g_callSi (n := 4) (As := [gJ a]) (rest := []) (cs1 := 0) (ss1 := 0) X (s_X11_isParish a (by omega) hsz I C ) okX11_isParish kw_3_26 kw_3_27 ⟨rfl, rfl⟩ ⟨Nat.le_of_ble_eq_true rfl, Nat.le_of_ble_eq_true rfl⟩ rfl rfl (Nat.le_of_ble_eq_true rfl) ⟨Nat.le_of_ble_eq_true rfl, Nat.le_of_ble_eq_true rfl⟩ rfl rfl dX11_far_1 rfl (fun v1 M2 P3 => ?_)
  obtain ⟨rfl, rv1, xv1⟩ := P3
  refine g_if_eq (n := 7) (tgt := 14) X dX11_far_4 (by decide) (by omega) rfl (fun c4 => ?_) (fun c4 => ?_)
  · refine g_iconst (n := 15) X dX11_far_14 rfl ?_
    exact hq _ _ _ _ dX11_far_15 ⟨rfl, by omega, by omega⟩
  · refine g_iload_n (n := 8) X 2 dX11_far_7 rfl rfl rfl ?_
    refine g_callSi (n := 11) (As := [gJ b]) (rest := []) (cs1 := 0) (ss1 := 0) X (s_X11_isParish b (by omega) hsz I C ) okX11_isParish kw_3_26 kw_3_27 ⟨rfl, rfl⟩ ⟨Nat.le_of_ble_eq_true rfl, Nat.le_of_ble_eq_true rfl⟩ rfl rfl (Nat.le_of_ble_eq_true rfl) ⟨Nat.le_of_ble_eq_true rfl, Nat.le_of_ble_eq_true rfl⟩ rfl rfl dX11_far_8 rfl (fun v5 M6 P7 => ?_)
    obtain ⟨rfl, rv5, xv5⟩ := P7
    refine g_if_ne (n := 14) (tgt := 16) X dX11_far_11 (by decide) (by omega) rfl (fun c8 => ?_) (fun c8 => ?_)
    · refine g_aload_n (n := 17) X 0 dX11_far_16 rfl rfl rfl ?_
      refine gg_11_0 (n := 20) (z := 1) X (by decide) (gsz hsz (by decide)) lay_0 kw_2_231 dX11_far_17 rfl (rf_0_0 I (gsz hsz (by decide))) (by decide) ?_
      refine gg_9_0 (n := 23) (z := 2) X (by decide) (gsz hsz (by decide)) lay_1 kw_2_105 dX11_far_20 rfl (rf_1_0 I (gsz hsz (by decide))) (by decide) ?_
      refine g_iload_n (n := 24) X 1 dX11_far_23 rfl rfl rfl ?_
      refine g_iload_n (n := 25) X 2 dX11_far_24 rfl rfl rfl ?_
      refine g_callVi (n := 28) (As := [gJ a, gJ b]) (rest := []) (cs1 := 0) (ss1 := 0) X (s_X3_distance a (by omega) b (by omega) hsz I C ) okX3_distance kw_3_51 ⟨kw_3_41, kw_3_42⟩ ⟨rfl, rfl⟩ ⟨Nat.le_of_ble_eq_true rfl, Nat.le_of_ble_eq_true rfl⟩ rfl (by decide) (gsz hsz (by decide)) lay_2 rfl rfl (Nat.le_of_ble_eq_true rfl) ⟨Nat.le_of_ble_eq_true rfl, Nat.le_of_ble_eq_true rfl⟩ rfl rfl dX11_far_25 rfl (fun v9 M10 P11 => ?_)
      obtain ⟨rfl, rv9, xv9⟩ := P11
      exact hq _ _ _ _ dX11_far_28 ⟨rfl, by omega, by omega⟩
    · refine g_iconst (n := 15) X dX11_far_14 rfl ?_
      exact hq _ _ _ _ dX11_far_15 ⟨rfl, by omega, by omega⟩
abbrev R_s_X12_far2 : Room := { frames := 2, cells := 0, slots := 0, locals := 42 }
set_option maxRecDepth 100000 in
set_option maxHeartbeats 4000000 in
theorem s_X12_far2 {l : Launch} {n0 : Nat} {D : va_G} {cA : Nat → ClassId} {M : gM} (a : Int) (r_a : -2147483648 ≤ a ∧ a ≤ 2147483647) (b : Int) (r_b : -2147483648 ≤ b ∧ b ≤ 2147483647) {sz : Nat} (hsz : 206 ≤ sz) (I : gI sz M) (C : gC sz M)   : Met l yX12_far (gWsOf yX12_far cX12_far 3 (Option.some Jvm.ClassFile.FieldType.int)) R_s_X12_far2 (gPc n0 D cA [gA n0 190, gJ a, gJ b] M sz) (gQi n0 D cA sz (fun z M1 => M = M1 ∧ (-1 ≤ z ∧ z ≤ 99) ∧ ((¬ ((0 ≤ a ∧ a ≤ 5) ∧ (0 ≤ b ∧ b ≤ 5)) ∧ z = -1) ∨ (((0 ≤ a ∧ a ≤ 5) ∧ (0 ≤ b ∧ b ≤ 5)) ∧ z = M 191 (a * 6 + b + 24))))) 0 0 (fun q => n0 ≤ q) := by
  refine gMetI [gA n0 190, gJ a, gJ b] (by decide) (Nat.le_of_ble_eq_true rfl) ⟨rfl, rfl⟩ ?_
  intro p e s m args below meth cd Q X hq
  have X : gCx p s m args meth cd n0 D cA "ParishUnionModel" cX12_far 3 := X
  show G p l e R_s_X12_far2 s m args below meth cd n0 D cA 3 Q 0 0 M sz 0 [(0, gA n0 190), (1, gJ a), (2, gJ b)] []
  refine g_iload_n (n := 1) X 1 dX12_far_0 rfl rfl rfl ?_
  refine g_callSi (n := 4) (As := [gJ a]) (rest := []) (cs1 := 0) (ss1 := 0) X (s_X12_isParish a (by omega) hsz I C ) okX12_isParish kw_6_103 kw_6_104 ⟨rfl, rfl⟩ ⟨Nat.le_of_ble_eq_true rfl, Nat.le_of_ble_eq_true rfl⟩ rfl rfl (Nat.le_of_ble_eq_true rfl) ⟨Nat.le_of_ble_eq_true rfl, Nat.le_of_ble_eq_true rfl⟩ rfl rfl dX12_far_1 rfl (fun v1 M2 P3 => ?_)
  obtain ⟨rfl, rv1, xv1⟩ := P3
  refine g_if_eq (n := 7) (tgt := 23) X dX12_far_4 (by decide) (by omega) rfl (fun c4 => ?_) (fun c4 => ?_)
  · refine g_iconst (n := 24) X dX12_far_23 rfl ?_
    exact hq _ _ _ _ dX12_far_24 ⟨rfl, by omega, by omega⟩
  · refine g_iload_n (n := 8) X 2 dX12_far_7 rfl rfl rfl ?_
    refine g_callSi (n := 11) (As := [gJ b]) (rest := []) (cs1 := 0) (ss1 := 0) X (s_X12_isParish b (by omega) hsz I C ) okX12_isParish kw_6_103 kw_6_104 ⟨rfl, rfl⟩ ⟨Nat.le_of_ble_eq_true rfl, Nat.le_of_ble_eq_true rfl⟩ rfl rfl (Nat.le_of_ble_eq_true rfl) ⟨Nat.le_of_ble_eq_true rfl, Nat.le_of_ble_eq_true rfl⟩ rfl rfl dX12_far_8 rfl (fun v5 M6 P7 => ?_)
    obtain ⟨rfl, rv5, xv5⟩ := P7
    refine g_if_eq (n := 14) (tgt := 23) X dX12_far_11 (by decide) (by omega) rfl (fun c8 => ?_) (fun c8 => ?_)
    · refine g_iconst (n := 24) X dX12_far_23 rfl ?_
      exact hq _ _ _ _ dX12_far_24 ⟨rfl, by omega, by omega⟩
    · refine g_aload_n (n := 15) X 0 dX12_far_14 rfl rfl rfl ?_
      refine g_iload_n (n := 16) X 1 dX12_far_15 rfl rfl rfl ?_
      refine g_iload_n (n := 17) X 2 dX12_far_16 rfl rfl rfl ?_
      refine g_callVi (n := 20) (As := [gJ a, gJ b]) (rest := []) (cs1 := 0) (ss1 := 0) X (s_X12_farOf2 a (by omega) b (by omega) hsz I C ) okX12_farOf kw_6_113 ⟨kw_6_115, kw_0_39⟩ ⟨rfl, rfl⟩ ⟨Nat.le_of_ble_eq_true rfl, Nat.le_of_ble_eq_true rfl⟩ rfl (by decide) (gsz hsz (by decide)) lay_190 rfl rfl (Nat.le_of_ble_eq_true rfl) ⟨Nat.le_of_ble_eq_true rfl, Nat.le_of_ble_eq_true rfl⟩ rfl rfl dX12_far_17 rfl (fun v9 M10 P11 => ?_)
      obtain ⟨rfl, rv9, xv9⟩ := P11
      refine g_goto (tgt := 24) X dX12_far_20 (by decide) ?_
      exact hq _ _ _ _ dX12_far_24 ⟨rfl, by omega, by have q := xv9; rw [show a * 6 + b + 24 = 24 + 6 * a + b by omega]; omega⟩
