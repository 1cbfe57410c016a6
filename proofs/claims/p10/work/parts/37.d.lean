abbrev R_s_X11_rowFits2 : Room := { frames := 0, cells := 0, slots := 0, locals := 0 }
set_option maxRecDepth 100000 in
set_option maxHeartbeats 4000000 in
theorem s_X11_rowFits2 {l : Launch} {n0 : Nat} {D : va_G} {cA : Nat → ClassId} {M : gM} (a : Int) (r_a : 0 ≤ a ∧ a ≤ 2) {sz : Nat} (hsz : 206 ≤ sz) (I : gI sz M) (C : gC sz M)   : Met l yX11_rowFits (gWsOf yX11_rowFits cX11_rowFits 2 (Option.some Jvm.ClassFile.FieldType.boolean)) R_s_X11_rowFits2 (gPc n0 D cA [gA n0 0, gJ a] M sz) (gQi n0 D cA sz (fun z M1 => M = M1 ∧ (0 ≤ z ∧ z ≤ 1) ∧ ((z = 1 ∧ M 1 15 + M 18 a ≤ 300) ∨ (z = 0 ∧ ¬ M 1 15 + M 18 a ≤ 300)))) 0 0 (fun q => n0 ≤ q) := by
  refine gMetZ [gA n0 0, gJ a] (by decide) (Nat.le_of_ble_eq_true rfl) ⟨rfl, rfl⟩ ?_
  intro p e s m args below meth cd Q X hq
  have X : gCx p s m args meth cd n0 D cA "ParishUnion" cX11_rowFits 2 := X
  show G p l e R_s_X11_rowFits2 s m args below meth cd n0 D cA 2 Q 0 0 M sz 0 [(0, gA n0 0), (1, gJ a)] []
  obtain ⟨v1, hv1, rv1⟩ := gRd I (by decide) (gsz hsz (by decide)) rc_1_15.1
  refine g_aload_n (n := 1) X 0 dX11_rowFits_0 rfl rfl rfl ?_
  refine gg_11_0 (n := 4) (z := 1) X (by decide) (gsz hsz (by decide)) lay_0 kw_2_231 dX11_rowFits_1 rfl (rf_0_0 I (gsz hsz (by decide))) (by decide) ?_
  refine gg_9_15 (n := 7) (z := v1) X (by decide) (gsz hsz (by decide)) lay_1 kw_2_139 dX11_rowFits_4 rfl hv1 ?_
  refine g_aload_n (n := 8) X 0 dX11_rowFits_7 rfl rfl rfl ?_
  refine gg_11_0 (n := 11) (z := 1) X (by decide) (gsz hsz (by decide)) lay_0 kw_2_231 dX11_rowFits_8 rfl (rf_0_0 I (gsz hsz (by decide))) (by decide) ?_
  refine gg_9_6 (n := 14) (z := 15) X (by decide) (gsz hsz (by decide)) lay_1 kw_2_119 dX11_rowFits_11 rfl (rf_1_6 I (gsz hsz (by decide))) (by decide) ?_
  refine gg_2_2 (n := 17) (z := 18) X (by decide) (gsz hsz (by decide)) lay_15 kw_1_102 dX11_rowFits_14 rfl (rf_15_2 I (gsz hsz (by decide))) (by decide) ?_
  refine g_iload_n (n := 18) X 1 dX11_rowFits_17 rfl rfl rfl ?_
  obtain ⟨v2, hv2, rv2⟩ := gRd I (by decide) (gsz hsz (by decide)) (ra_18 a).1
  refine g_iald2 (n := 19) (v := v2) X (by decide) (gsz hsz (by decide)) lay_18 (by omega) (by omega) (by decide) dX11_rowFits_18 rfl hv2 ?_
  refine g_iadd (n := 20) (z := v1 + v2) X dX11_rowFits_19 rfl rfl ?_
  refine g_sipush (n := 23) X dX11_rowFits_20 (by decide +kernel) rfl ?_
  refine g_icmp_gt (n := 26) (tgt := 30) X dX11_rowFits_23 (by decide) (by omega) (by omega) rfl (fun c3 => ?_) (fun c3 => ?_)
  · refine g_iconst (n := 31) X dX11_rowFits_30 rfl ?_
    exact hq _ _ _ _ dX11_rowFits_31 (by omega) ⟨rfl, by omega, by omega⟩
  · refine g_iconst (n := 27) X dX11_rowFits_26 rfl ?_
    refine g_goto (tgt := 31) X dX11_rowFits_27 (by decide) ?_
    exact hq _ _ _ _ dX11_rowFits_31 (by omega) ⟨rfl, by omega, by omega⟩
abbrev R_s_X11_rowsCanBeTried2 : Room := { frames := 1, cells := 0, slots := 0, locals := 21 }
set_option maxRecDepth 100000 in
set_option maxHeartbeats 4000000 in
theorem s_X11_rowsCanBeTried2 {l : Launch} {n0 : Nat} {D : va_G} {cA : Nat → ClassId} {M : gM}  {sz : Nat} (hsz : 206 ≤ sz) (I : gI sz M) (C : gC sz M)   : Met l yX11_rowsCanBeTried (gWsOf yX11_rowsCanBeTried cX11_rowsCanBeTried 3 (Option.some Jvm.ClassFile.FieldType.boolean)) R_s_X11_rowsCanBeTried2 (gPc n0 D cA [gA n0 0] M sz) (gQi n0 D cA sz (fun z M1 => M = M1 ∧ (0 ≤ z ∧ z ≤ 1) ∧ (z = 1 → ∀ q : Int, 0 ≤ q → q < 3 → M 1 15 + M 18 q ≤ 300))) 0 0 (fun q => n0 ≤ q) := by
  refine gMetZ [gA n0 0] (by decide) (Nat.le_of_ble_eq_true rfl) ⟨rfl, rfl⟩ ?_
  intro p e s m args below meth cd Q X hq
  have X : gCx p s m args meth cd n0 D cA "ParishUnion" cX11_rowsCanBeTried 3 := X
  show G p l e R_s_X11_rowsCanBeTried2 s m args below meth cd n0 D cA 3 Q 0 0 M sz 0 [(0, gA n0 0)] []
  refine g_iconst (n := 1) X dX11_rowsCanBeTried_0 rfl ?_
  refine g_istore_n (n := 2) (L' := [(1, gJ 0), (0, gA n0 0)]) X dX11_rowsCanBeTried_1 rfl (by decide) rfl rfl ?_
  refine g_iconst (n := 3) X dX11_rowsCanBeTried_2 rfl ?_
  refine g_istore_n (n := 4) (L' := [(2, gJ 0), (1, gJ 0), (0, gA n0 0)]) X dX11_rowsCanBeTried_3 rfl (by decide) rfl rfl ?_
  have j4 : ∀ (N41 : Nat) (v1 v2 : Int) , (0 ≤ v1 ∧ v1 ≤ 1) → (0 ≤ v2 ∧ v2 ≤ 3) → (∀ q : Int, 0 ≤ q → q < v2 → M 1 15 + M 18 q ≤ 300) → (3 - v2).toNat < N41 → G p l e R_s_X11_rowsCanBeTried2 s m args below meth cd n0 D cA 3 Q 0 0 M sz 4 [(0, gA n0 0), (1, gJ v1), (2, gJ v2)] [] := by
    intro N41; induction N41 with
    | zero => intro v1 v2 rv1 rv2 hb hm43; exfalso; omega
    | succ N41 ih42 =>
      intro v1 v2 rv1 rv2 hb hm43
      refine g_iload_n (n := 5) X 2 dX11_rowsCanBeTried_4 rfl rfl rfl ?_
      refine g_iconst (n := 6) X dX11_rowsCanBeTried_5 rfl ?_
      refine g_icmp_ge (n := 9) (tgt := 48) X dX11_rowsCanBeTried_6 (by decide) (by omega) (by omega) rfl (fun c44 => ?_) (fun c44 => ?_)
      · refine g_iload_n (n := 49) X 1 dX11_rowsCanBeTried_48 rfl rfl rfl ?_
        exact hq _ _ _ _ dX11_rowsCanBeTried_49 (by omega) ⟨rfl, by omega, (fun _ q h0 h1 => hb q h0 (by omega))⟩
      · refine g_aload_n (n := 10) X 0 dX11_rowsCanBeTried_9 rfl rfl rfl ?_
        refine g_iload_n (n := 11) X 2 dX11_rowsCanBeTried_10 rfl rfl rfl ?_
        refine g_callVi (n := 14) (As := [gJ v2]) (rest := []) (cs1 := 0) (ss1 := 0) X (s_X11_rowFits2 v2 (by omega) hsz I C ) okX11_rowFits kw_5_153 ⟨kw_5_155, kw_0_34⟩ ⟨rfl, rfl⟩ ⟨Nat.le_of_ble_eq_true rfl, Nat.le_of_ble_eq_true rfl⟩ rfl (by decide) (gsz hsz (by decide)) lay_0 rfl rfl (Nat.le_of_ble_eq_true rfl) ⟨Nat.le_of_ble_eq_true rfl, Nat.le_of_ble_eq_true rfl⟩ rfl rfl dX11_rowsCanBeTried_11 rfl (fun v45 M46 P47 => ?_)
        obtain ⟨rfl, rv45, xv45⟩ := P47
        refine g_if_ne (n := 17) (tgt := 19) X dX11_rowsCanBeTried_14 (by decide) (by omega) rfl (fun c48 => ?_) (fun c48 => ?_)
        · refine g_iload_n (n := 20) X 1 dX11_rowsCanBeTried_19 rfl rfl rfl ?_
          refine g_aload_n (n := 21) X 0 dX11_rowsCanBeTried_20 rfl rfl rfl ?_
          refine gg_11_0 (n := 24) (z := 1) X (by decide) (gsz hsz (by decide)) lay_0 kw_2_231 dX11_rowsCanBeTried_21 rfl (rf_0_0 I (gsz hsz (by decide))) (by decide) ?_
          refine gg_9_6 (n := 27) (z := 15) X (by decide) (gsz hsz (by decide)) lay_1 kw_2_119 dX11_rowsCanBeTried_24 rfl (rf_1_6 I (gsz hsz (by decide))) (by decide) ?_
          refine gg_2_2 (n := 30) (z := 18) X (by decide) (gsz hsz (by decide)) lay_15 kw_1_102 dX11_rowsCanBeTried_27 rfl (rf_15_2 I (gsz hsz (by decide))) (by decide) ?_
          refine g_iload_n (n := 31) X 2 dX11_rowsCanBeTried_30 rfl rfl rfl ?_
          obtain ⟨v49, hv49, rv49⟩ := gRd I (by decide) (gsz hsz (by decide)) (ra_18 v2).1
          refine g_iald2 (n := 32) (v := v49) X (by decide) (gsz hsz (by decide)) lay_18 (by omega) (by omega) (by decide) dX11_rowsCanBeTried_31 rfl hv49 ?_
          refine g_if_le (n := 35) (tgt := 39) X dX11_rowsCanBeTried_32 (by decide) (by omega) rfl (fun c50 => ?_) (fun c50 => ?_)
          · refine g_iconst (n := 40) X dX11_rowsCanBeTried_39 rfl ?_
            refine g_iorB (n := 41) X dX11_rowsCanBeTried_40 (by omega) (by omega) rfl (fun v51 rv51 => ?_)
            refine g_istore_n (n := 42) (L' := [(1, gJ v51), (0, gA n0 0), (2, gJ v2)]) X dX11_rowsCanBeTried_41 rfl (by decide) rfl rfl ?_
            refine g_iinc (n := 45) (w := v2 + 1) (L' := [(2, gJ (v2 + 1)), (1, gJ v51), (0, gA n0 0)]) X 2 dX11_rowsCanBeTried_42 rfl rfl (by decide) rfl rfl ?_
            refine g_goto (tgt := 4) X dX11_rowsCanBeTried_45 (by decide) ?_
            refine G.sub (L' := [(0, gA n0 0), (1, gJ v51), (2, gJ (v2 + 1))]) [2, 1, 0] rfl ?_
            exact ih42 v51 (v2 + 1) (by omega) (by omega) (fun q h0 h1 => if g : q = v2 then (by rw [g]; omega) else hb q h0 (by omega)) (by omega)
          · refine g_iconst (n := 36) X dX11_rowsCanBeTried_35 rfl ?_
            refine g_goto (tgt := 40) X dX11_rowsCanBeTried_36 (by decide) ?_
            refine g_iorB (n := 41) X dX11_rowsCanBeTried_40 (by omega) (by omega) rfl (fun v52 rv52 => ?_)
            refine g_istore_n (n := 42) (L' := [(1, gJ v52), (0, gA n0 0), (2, gJ v2)]) X dX11_rowsCanBeTried_41 rfl (by decide) rfl rfl ?_
            refine g_iinc (n := 45) (w := v2 + 1) (L' := [(2, gJ (v2 + 1)), (1, gJ v52), (0, gA n0 0)]) X 2 dX11_rowsCanBeTried_42 rfl rfl (by decide) rfl rfl ?_
            refine g_goto (tgt := 4) X dX11_rowsCanBeTried_45 (by decide) ?_
            refine G.sub (L' := [(0, gA n0 0), (1, gJ v52), (2, gJ (v2 + 1))]) [2, 1, 0] rfl ?_
            exact ih42 v52 (v2 + 1) (by omega) (by omega) (fun q h0 h1 => if g : q = v2 then (by rw [g]; omega) else hb q h0 (by omega)) (by omega)
        · refine g_iconst (n := 18) X dX11_rowsCanBeTried_17 rfl ?_
          exact hq _ _ _ _ dX11_rowsCanBeTried_18 (by omega) ⟨rfl, by omega, (by intro h; exfalso; omega)⟩
  refine G.sub (L' := [(0, gA n0 0), (1, gJ 0), (2, gJ 0)]) [2, 1, 0] rfl ?_
  exact j4 _ 0 0 (by omega) (by omega) (fun q h0 h1 => by exfalso; omega) (Nat.lt_succ_self _)
