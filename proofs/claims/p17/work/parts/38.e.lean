abbrev R_e_X7_skip : Room := { frames := 0, cells := 0, slots := 0, locals := 0 }
set_option maxRecDepth 100000 in
set_option maxHeartbeats 4000000 in
theorem e_X7_skip {l : Launch} {n0 : Nat} {D : va_G} {cA : Nat → ClassId} {M : gM} (a : Int) (r_a : 0 ≤ a ∧ a ≤ 127) (o : Int) (r_o : 87 ≤ o ∧ o ≤ 147 ∧ (o - 87) % 6 = 0) {sz : Nat} (hsz : 206 ≤ sz) (I : gI sz M) (C : gC sz M) (ht : M 159 0 = o + 1 + 1) (T : Int → Int) (hT : gTc M o = T)  : Met l yX7_skip (gWsOf yX7_skip cX7_skip 2 (Option.some Jvm.ClassFile.FieldType.boolean)) R_e_X7_skip (gPc n0 D cA [gA n0 159, gJ a] M sz) (gQi n0 D cA sz (fun z M1 => (0 ≤ z ∧ z ≤ 1) ∧ gI sz M1 ∧ gC sz M1 ∧ gFr 536870912 M M1 ∧ ((z = 1 ∧ T (M 159 2) = a ∧ M1 159 2 = M 159 2 + 1) ∨ (z = 0 ∧ ¬ T (M 159 2) = a ∧ M1 159 2 = M 159 2)))) 0 0 (fun q => n0 ≤ q) := by
  refine gMetZ [gA n0 159, gJ a] (by decide) (Nat.le_of_ble_eq_true rfl) ⟨rfl, rfl⟩ ?_
  intro p e s m args below meth cd Q X hq
  have X : gCx p s m args meth cd n0 D cA "ParishUnion$Reader" cX7_skip 2 := X
  show G p l e R_e_X7_skip s m args below meth cd n0 D cA 2 Q 0 0 M sz 0 [(0, gA n0 159), (1, gJ a)] []
  obtain ⟨v1, hv1, rv1⟩ := gRd I (by decide) (gsz hsz (by decide)) rc_159_2.1
  obtain ⟨v2, hv2, rv2⟩ := gRd I (by decide) (gsz hsz (by decide)) rc_159_1.1
  refine g_aload_n (n := 1) X 0 dX7_skip_0 rfl rfl rfl ?_
  refine gg_7_2 (n := 4) (z := v1) X (by decide) (gsz hsz (by decide)) lay_159 kw_2_213 dX7_skip_1 rfl hv1 ?_
  refine g_aload_n (n := 5) X 0 dX7_skip_4 rfl rfl rfl ?_
  refine gg_7_1 (n := 8) (z := v2) X (by decide) (gsz hsz (by decide)) lay_159 kw_2_212 dX7_skip_5 rfl hv2 ?_
  refine g_icmp_ge (n := 11) (tgt := 24) X dX7_skip_8 (by decide) (by omega) (by omega) rfl (fun c3 => ?_) (fun c3 => ?_)
  · refine g_iconst (n := 25) X dX7_skip_24 rfl ?_
    exact hq _ _ _ _ dX7_skip_25 (by omega) ⟨by omega, I, C, gFr.rf, (by have zb2 : M 159 2 = v1 := hv1; have ze2 : M 159 2 = v1 := hv1; have t : T v1 = -1 := gTc_out hT (show M 159 1 = v2 from hv2) (by omega); rw [zb2]; omega)⟩
  · refine g_aload_n (n := 12) X 0 dX7_skip_11 rfl rfl rfl ?_
    refine gg_7_0 (n := 15) (z := o + 1) X (by decide) (gsz hsz (by decide)) lay_159 kw_2_211 dX7_skip_12 rfl ht (by omega) ?_
    refine g_aload_n (n := 16) X 0 dX7_skip_15 rfl rfl rfl ?_
    refine gg_7_2 (n := 19) (z := v1) X (by decide) (gsz hsz (by decide)) lay_159 kw_2_213 dX7_skip_16 rfl hv1 ?_
    obtain ⟨v4, hv4, rv4⟩ := gRd I (A1o0 r_o) (A1osz hsz r_o) (rAA_1 r_o v1).1
    refine g_bald2 (n := 20) (v := v4) X (A1o0 r_o) (A1osz hsz r_o) (lay2_A1 r_o) (by omega) (by omega) (by decide) dX7_skip_19 rfl hv4 ?_
    refine g_iload_n (n := 21) X 1 dX7_skip_20 rfl rfl rfl ?_
    refine g_icmp_eq (n := 24) (tgt := 26) X dX7_skip_21 (by decide) (by omega) (by omega) rfl (fun c5 => ?_) (fun c5 => ?_)
    · refine g_aload_n (n := 27) X 0 dX7_skip_26 rfl rfl rfl ?_
      refine g_dup (n := 28) X dX7_skip_27 rfl rfl ?_
      refine gg_7_2 (n := 31) (z := v1) X (by decide) (gsz hsz (by decide)) lay_159 kw_2_213 dX7_skip_28 rfl hv1 ?_
      refine g_iconst (n := 32) X dX7_skip_31 rfl ?_
      refine g_iadd (n := 33) (z := v1 + 1) X dX7_skip_32 (by omega) rfl ?_
      refine gp_7_2 (n := 36) X (by decide) (gsz hsz (by decide)) lay_159 kw_2_213 dX7_skip_33 rfl ?_
      refine G.nm (fun M6 e7 => ?_)
      have IM6 : gI sz M6 := gI.set I rc_159_2.1 (by omega) e7
      have CM6 : gC sz M6 := gC.set C rc_159_2.2.1 e7
      refine g_iconst (n := 37) X dX7_skip_36 rfl ?_
      exact hq _ _ _ _ dX7_skip_37 (by omega) ⟨by omega, IM6, CM6, (gFr.s gFr.rf e7 rc_159_2.2.2 rfl), (by have zb2 : M 159 2 = v1 := hv1; have ze2 : M6 159 2 = v1 + 1 := ((congrFun (congrFun e7 _) _).trans (gset_eq _ _ _ _)); have t : T v1 = v4 % 256 := gTc_in hT (show M 159 1 = v2 from hv2) (by omega) (show M (o + 1) v1 = v4 from hv4); rw [zb2]; omega)⟩
    · refine g_iconst (n := 25) X dX7_skip_24 rfl ?_
      exact hq _ _ _ _ dX7_skip_25 (by omega) ⟨by omega, I, C, gFr.rf, (by have zb2 : M 159 2 = v1 := hv1; have ze2 : M 159 2 = v1 := hv1; have t : T v1 = v4 % 256 := gTc_in hT (show M 159 1 = v2 from hv2) (by omega) (show M (o + 1) v1 = v4 from hv4); rw [zb2]; omega)⟩
abbrev R_e_X7_readSign : Room := { frames := 4, cells := 0, slots := 0, locals := 85 }
set_option maxRecDepth 100000 in
set_option maxHeartbeats 4000000 in
theorem e_X7_readSign {l : Launch} {n0 : Nat} {D : va_G} {cA : Nat → ClassId} {M : gM} (a : Int) (r_a : 0 ≤ a ∧ a ≤ 25) (o : Int) (r_o : 87 ≤ o ∧ o ≤ 147 ∧ (o - 87) % 6 = 0) {sz : Nat} (hsz : 206 ≤ sz) (I : gI sz M) (C : gC sz M) (ht : M 159 0 = o + 1 + 1) (T : Int → Int) (hT : gTc M o = T)  : Met l yX7_readSign (gWsOf yX7_readSign cX7_readSign 3 (Option.some Jvm.ClassFile.FieldType.int)) R_e_X7_readSign (gPc n0 D cA [gA n0 159, .ref (cA (100 + (a).toNat))] M sz) (gQi n0 D cA sz (fun z M1 => (-1 ≤ z ∧ z ≤ 9) ∧ gI sz M1 ∧ gC sz M1 ∧ gFr 536870912 M M1 ∧ (gSgn a (T (M 159 2)) z ∧ ((z = -1 ∧ M1 159 2 = M 159 2) ∨ (0 ≤ z ∧ M1 159 2 = M 159 2 + 1)) ∧ z < gSL a))) 0 0 (fun q => n0 ≤ q) := by
  refine gMetI [gA n0 159, .ref (cA (100 + (a).toNat))] (by decide) (Nat.le_of_ble_eq_true rfl) ⟨rfl, rfl⟩ ?_
  intro p e s m args below meth cd Q X hq
  have X : gCx p s m args meth cd n0 D cA "ParishUnion$Reader" cX7_readSign 3 := X
  show G p l e R_e_X7_readSign s m args below meth cd n0 D cA 3 Q 0 0 M sz 0 [(0, gA n0 159), (1, .ref (cA (100 + (a).toNat)))] []
  obtain ⟨v1, hv1, rv1⟩ := gRd I (by decide) (gsz hsz (by decide)) rc_159_2.1
  obtain ⟨v2, hv2, rv2⟩ := gRd I (by decide) (gsz hsz (by decide)) rc_159_1.1
  refine g_iconst (n := 1) X dX7_readSign_0 rfl ?_
  refine g_istore_n (n := 2) (L' := [(2, gJ 0), (0, gA n0 159), (1, .ref (cA (100 + (a).toNat)))]) X dX7_readSign_1 rfl (by decide) rfl rfl ?_
  have j5 : ∀ (N76 : Nat) (v3 : Int) (M4 : gM) , (0 ≤ v3 ∧ v3 ≤ 10) → gI sz M4 → gC sz M4 → gFr 536870912 M M4 → (∀ i : Int, 0 ≤ i → i < v3 → ¬ T v1 = gSC a i) → (M4 159 2 = M 159 2) → (10 - v3).toNat < N76 → G p l e R_e_X7_readSign s m args below meth cd n0 D cA 3 Q 0 0 M4 sz 2 [(0, gA n0 159), (1, .ref (cA (100 + (a).toNat))), (2, gJ v3)] [] := by
    intro N76; induction N76 with
    | zero => intro v3 M4 rv3 IM4 CM4 FM4 hs hp hm78; exfalso; omega
    | succ N76 ih77 =>
      intro v3 M4 rv3 IM4 CM4 FM4 hs hp hm78
      refine g_iload_n (n := 3) X 2 dX7_readSign_2 rfl rfl rfl ?_
      refine g_aload_n (n := 4) X 1 dX7_readSign_3 rfl rfl rfl ?_
      obtain ⟨q79, hq79⟩ := gSO_at (z := a) (by omega)
      refine g_callSt (n := 7) (As := []) (rest := [gJ v3]) (cs1 := 0) (ss1 := 0) X (a).toNat hq79 (s_J_len a (by omega)) okJ_len kw_3_235 ⟨kw_3_236, kw_3_237⟩ ⟨rfl, rfl⟩ ⟨Nat.le_of_ble_eq_true rfl, Nat.le_of_ble_eq_true rfl⟩ rfl rfl (Nat.le_of_ble_eq_true rfl) ⟨Nat.le_of_ble_eq_true rfl, Nat.le_of_ble_eq_true rfl⟩ rfl rfl dX7_readSign_4 rfl (fun v80 M81 P82 => ?_)
      obtain ⟨rfl, rv80, xv80⟩ := P82
      refine g_icmp_ge (n := 10) (tgt := 30) X dX7_readSign_7 (by decide) (by omega) (by omega) rfl (fun c83 => ?_) (fun c83 => ?_)
      · refine g_iconst (n := 31) X dX7_readSign_30 rfl ?_
        exact hq _ _ _ _ dX7_readSign_31 ⟨by omega, IM4, CM4, (gFr.c gFr.rf FM4 rfl), (by have zb2 : M 159 2 = v1 := hv1; have ze2 : M4 159 2 = v1 := (hp.trans hv1); rw [zb2]; exact ⟨Or.inl ⟨rfl, fun i h0 h1 => hs i h0 (by omega)⟩, by omega, by omega⟩)⟩
      · refine g_aload_n (n := 11) X 0 dX7_readSign_10 rfl rfl rfl ?_
        refine g_aload_n (n := 12) X 1 dX7_readSign_11 rfl rfl rfl ?_
        refine g_iload_n (n := 13) X 2 dX7_readSign_12 rfl rfl rfl ?_
        obtain ⟨q84, hq84⟩ := gSO_at (z := a) (by omega)
        refine g_callSt (n := 16) (As := [gJ v3]) (rest := [gA n0 159]) (cs1 := 0) (ss1 := 0) X (a).toNat hq84 (s_J_chr a (by omega) v3 (by omega) (by omega)) okJ_chr kw_4_5 ⟨kw_4_6, kw_4_7⟩ ⟨rfl, rfl⟩ ⟨Nat.le_of_ble_eq_true rfl, Nat.le_of_ble_eq_true rfl⟩ rfl rfl (Nat.le_of_ble_eq_true rfl) ⟨Nat.le_of_ble_eq_true rfl, Nat.le_of_ble_eq_true rfl⟩ rfl rfl dX7_readSign_13 rfl (fun v85 M86 P87 => ?_)
        obtain ⟨rfl, rv85, xv85⟩ := P87
        refine g_callVi (n := 19) (As := [gJ v85]) (rest := []) (cs1 := 0) (ss1 := 0) X (e_X7_skip v85 (by omega) o r_o hsz IM4 CM4 ((gFr.at FM4 rc_159_0.2.2 rfl).trans ht) T (gTc.eq hT (gFr.at ((gFr.c gFr.rf FM4 rfl) : gFr 536870912 M M4) rc_159_1.2.2 rfl) (fun b => gFr.at ((gFr.c gFr.rf FM4 rfl) : gFr 536870912 M M4) (rAA_1 r_o b).2.2 rfl))) okX7_skip kw_4_44 ⟨kw_4_46, kw_0_9⟩ ⟨rfl, rfl⟩ ⟨Nat.le_of_ble_eq_true rfl, Nat.le_of_ble_eq_true rfl⟩ rfl (by decide) (gsz hsz (by decide)) lay_159 rfl rfl (Nat.le_of_ble_eq_true rfl) ⟨Nat.le_of_ble_eq_true rfl, Nat.le_of_ble_eq_true rfl⟩ rfl rfl dX7_readSign_16 rfl (fun v88 M89 P90 => ?_)
        obtain ⟨rv88, IM89, CM89, FM89, xM89⟩ := P90
        rw [show M4 159 2 = v1 from (hp.trans hv1)] at xM89
        obtain ⟨v91, hv91, rv91⟩ := gRd IM89 (by decide) (gsz hsz (by decide)) rc_159_2.1
        rw [hv91] at xM89
        refine g_if_eq (n := 22) (tgt := 24) X dX7_readSign_19 (by decide) (by omega) rfl (fun c92 => ?_) (fun c92 => ?_)
        · refine g_iinc (n := 27) (w := v3 + 1) (L' := [(2, gJ (v3 + 1)), (0, gA n0 159), (1, .ref (cA (100 + (a).toNat)))]) X 2 dX7_readSign_24 rfl rfl (by decide) rfl rfl ?_
          refine g_goto (tgt := 2) X dX7_readSign_27 (by decide) ?_
          refine G.sub (L' := [(0, gA n0 159), (1, .ref (cA (100 + (a).toNat))), (2, gJ (v3 + 1))]) [1, 2, 0] rfl ?_
          exact ih77 (v3 + 1) M89 (by omega) IM89 CM89 (gFr.c (gFr.c gFr.rf FM4 rfl) FM89 rfl) (fun i h0 h1 => by by_cases e : i = v3 + 1 - 1; (rw [show i = v3 by omega, ← xv85]; omega); (exact hs i h0 (by omega))) (by have zb2 : M 159 2 = v1 := hv1; have ze2 : M89 159 2 = v91 := hv91; omega) (by omega)
        · refine g_iload_n (n := 23) X 2 dX7_readSign_22 rfl rfl rfl ?_
          exact hq _ _ _ _ dX7_readSign_23 ⟨by omega, IM89, CM89, (gFr.c (gFr.c gFr.rf FM4 rfl) FM89 rfl), (by have zb2 : M 159 2 = v1 := hv1; have ze2 : M89 159 2 = v91 := hv91; rw [zb2]; exact ⟨Or.inr ⟨by omega, by rw [← xv85]; omega⟩, by omega, by omega⟩)⟩
  refine G.sub (L' := [(0, gA n0 159), (1, .ref (cA (100 + (a).toNat))), (2, gJ 0)]) [1, 2, 0] rfl ?_
  exact j5 _ 0 M (by omega) I C gFr.rf (fun i h0 h1 => by omega) (by have zb2 : M 159 2 = v1 := hv1; have ze2 : M 159 2 = v1 := hv1; omega) (Nat.lt_succ_self _)
abbrev R_e_X7_readNumber : Room := { frames := 0, cells := 0, slots := 0, locals := 0 }
set_option maxRecDepth 100000 in
set_option maxHeartbeats 4000000 in
theorem e_X7_readNumber {l : Launch} {n0 : Nat} {D : va_G} {cA : Nat → ClassId} {M : gM} (a : Int) (r_a : 1 ≤ a ∧ a ≤ 4) (o : Int) (r_o : 87 ≤ o ∧ o ≤ 147 ∧ (o - 87) % 6 = 0) {sz : Nat} (hsz : 206 ≤ sz) (I : gI sz M) (C : gC sz M) (ht : M 159 0 = o + 1 + 1) (T : Int → Int) (hT : gTc M o = T)  : Met l yX7_readNumber (gWsOf yX7_readNumber cX7_readNumber 4 (Option.some Jvm.ClassFile.FieldType.int)) R_e_X7_readNumber (gPc n0 D cA [gA n0 159, gJ a] M sz) (gQi n0 D cA sz (fun z M1 => (-1 ≤ z ∧ z ≤ 9999) ∧ gI sz M1 ∧ gC sz M1 ∧ gFr 536870912 M M1 ∧ ((z = -1 ∧ ¬ gDig (T (M 159 2)) = true ∧ M1 159 2 = M 159 2) ∨ (0 ≤ z ∧ gDig (T (M 159 2)) = true ∧ gNum T a.toNat (M 159 2) = (M1 159 2, z) ∧ M 159 2 < M1 159 2)))) 0 0 (fun q => n0 ≤ q) := by
  refine gMetI [gA n0 159, gJ a] (by decide) (Nat.le_of_ble_eq_true rfl) ⟨rfl, rfl⟩ ?_
  intro p e s m args below meth cd Q X hq
  have X : gCx p s m args meth cd n0 D cA "ParishUnion$Reader" cX7_readNumber 4 := X
  show G p l e R_e_X7_readNumber s m args below meth cd n0 D cA 4 Q 0 0 M sz 0 [(0, gA n0 159), (1, gJ a)] []
  obtain ⟨v1, hv1, rv1⟩ := gRd I (by decide) (gsz hsz (by decide)) rc_159_2.1
  obtain ⟨v2, hv2, rv2⟩ := gRd I (by decide) (gsz hsz (by decide)) rc_159_1.1
  refine g_iconst (n := 1) X dX7_readNumber_0 rfl ?_
  refine g_istore_n (n := 2) (L' := [(2, gJ 0), (0, gA n0 159), (1, gJ a)]) X dX7_readNumber_1 rfl (by decide) rfl rfl ?_
  refine g_iconst (n := 3) X dX7_readNumber_2 rfl ?_
  refine g_istore_n (n := 4) (L' := [(3, gJ 0), (2, gJ 0), (0, gA n0 159), (1, gJ a)]) X dX7_readNumber_3 rfl (by decide) rfl rfl ?_
  have j6 : ∀ (N38 : Nat) (v3 v4 : Int) (M5 : gM) , (0 ≤ v3 ∧ v3 ≤ 9999) → (0 ≤ v4 ∧ v4 ≤ 4) → gI sz M5 → gC sz M5 → gFr 536870912 M M5 → ((v4 = 0 ∧ v3 = 0) ∨ (v4 = 1 ∧ 0 ≤ v3 ∧ v3 ≤ 9) ∨ (v4 = 2 ∧ 0 ≤ v3 ∧ v3 ≤ 99) ∨ (v4 = 3 ∧ 0 ≤ v3 ∧ v3 ≤ 999) ∨ (v4 = 4 ∧ 0 ≤ v3 ∧ v3 ≤ 9999)) → (gNs T a v1 v4 v3 (M5 159 2)) → (v4 = 0 ∨ gDig (T v1) = true) → (4 - v4).toNat < N38 → G p l e R_e_X7_readNumber s m args below meth cd n0 D cA 4 Q 0 0 M5 sz 4 [(0, gA n0 159), (1, gJ a), (2, gJ v3), (3, gJ v4)] [] := by
    intro N38; induction N38 with
    | zero => intro v3 v4 M5 rv3 rv4 IM5 CM5 FM5 hn hK hD hm40; exfalso; omega
    | succ N38 ih39 =>
      intro v3 v4 M5 rv3 rv4 IM5 CM5 FM5 hn hK hD hm40
      obtain ⟨v41, hv41, rv41⟩ := gRd IM5 (by decide) (gsz hsz (by decide)) rc_159_2.1
      refine g_iload_n (n := 5) X 3 dX7_readNumber_4 rfl rfl rfl ?_
      refine g_iload_n (n := 6) X 1 dX7_readNumber_5 rfl rfl rfl ?_
      refine g_icmp_ge (n := 9) (tgt := 92) X dX7_readNumber_6 (by decide) (by omega) (by omega) rfl (fun c42 => ?_) (fun c42 => ?_)
      · refine g_iload_n (n := 93) X 3 dX7_readNumber_92 rfl rfl rfl ?_
        refine g_if_ne (n := 96) (tgt := 100) X dX7_readNumber_93 (by decide) (by omega) rfl (fun c43 => ?_) (fun c43 => by exfalso; omega)
        refine g_iload_n (n := 101) X 2 dX7_readNumber_100 rfl rfl rfl ?_
        exact hq _ _ _ _ dX7_readNumber_101 ⟨by omega, IM5, CM5, (gFr.c gFr.rf FM5 rfl), (by have zb2 : M 159 2 = v1 := hv1; have ze2 : M5 159 2 = v41 := hv41; rw [zb2]; have q0 := hD.resolve_left (by omega); have g := gNs.fin hK (by omega) q0 (by first | (left; omega) | (right; right; omega) | (right; left; exact (by first | (have t : T v41 = -1 := gTc_out (gTc.eq hT (gFr.at ((gFr.c gFr.rf FM5 rfl) : gFr 536870912 M M5) rc_159_1.2.2 rfl) (fun b => gFr.at ((gFr.c gFr.rf FM5 rfl) : gFr 536870912 M M5) (rAA_1 r_o b).2.2 rfl)) (show M5 159 1 = v2 from ((gFr.at FM5 rc_159_1.2.2 rfl).trans hv2)) (by omega); intro g; have g2 := gDig_i g; rw [ze2] at g2; omega)))); exact Or.inr ⟨by omega, q0, g.1, g.2⟩)⟩
      · refine g_aload_n (n := 10) X 0 dX7_readNumber_9 rfl rfl rfl ?_
        refine gg_7_2 (n := 13) (z := v41) X (by decide) (gsz hsz (by decide)) lay_159 kw_2_213 dX7_readNumber_10 rfl hv41 ?_
        refine g_aload_n (n := 14) X 0 dX7_readNumber_13 rfl rfl rfl ?_
        refine gg_7_1 (n := 17) (z := v2) X (by decide) (gsz hsz (by decide)) lay_159 kw_2_212 dX7_readNumber_14 rfl ((gFr.at FM5 rc_159_1.2.2 rfl).trans hv2) ?_
        refine g_icmp_ge (n := 20) (tgt := 92) X dX7_readNumber_17 (by decide) (by omega) (by omega) rfl (fun c44 => ?_) (fun c44 => ?_)
        · refine g_iload_n (n := 93) X 3 dX7_readNumber_92 rfl rfl rfl ?_
          refine g_if_ne (n := 96) (tgt := 100) X dX7_readNumber_93 (by decide) (by omega) rfl (fun c45 => ?_) (fun c45 => ?_)
          · refine g_iload_n (n := 101) X 2 dX7_readNumber_100 rfl rfl rfl ?_
            exact hq _ _ _ _ dX7_readNumber_101 ⟨by omega, IM5, CM5, (gFr.c gFr.rf FM5 rfl), (by have zb2 : M 159 2 = v1 := hv1; have ze2 : M5 159 2 = v41 := hv41; rw [zb2]; have q0 := hD.resolve_left (by omega); have g := gNs.fin hK (by omega) q0 (by first | (left; omega) | (right; right; omega) | (right; left; exact (by first | (have t : T v41 = -1 := gTc_out (gTc.eq hT (gFr.at ((gFr.c gFr.rf FM5 rfl) : gFr 536870912 M M5) rc_159_1.2.2 rfl) (fun b => gFr.at ((gFr.c gFr.rf FM5 rfl) : gFr 536870912 M M5) (rAA_1 r_o b).2.2 rfl)) (show M5 159 1 = v2 from ((gFr.at FM5 rc_159_1.2.2 rfl).trans hv2)) (by omega); intro g; have g2 := gDig_i g; rw [ze2] at g2; omega)))); exact Or.inr ⟨by omega, q0, g.1, g.2⟩)⟩
          · refine g_iconst (n := 97) X dX7_readNumber_96 rfl ?_
            refine g_goto (tgt := 101) X dX7_readNumber_97 (by decide) ?_
            exact hq _ _ _ _ dX7_readNumber_101 ⟨by omega, IM5, CM5, (gFr.c gFr.rf FM5 rfl), (by have zb2 : M 159 2 = v1 := hv1; have ze2 : M5 159 2 = v41 := hv41; rw [zb2]; first | (exact Or.inl ⟨rfl, (by intro g; have q1 := gNs.k0 hK (by omega); have q2 : ¬ gDig (T (M5 159 2)) = true := (by first | (have t : T v41 = -1 := gTc_out (gTc.eq hT (gFr.at ((gFr.c gFr.rf FM5 rfl) : gFr 536870912 M M5) rc_159_1.2.2 rfl) (fun b => gFr.at ((gFr.c gFr.rf FM5 rfl) : gFr 536870912 M M5) (rAA_1 r_o b).2.2 rfl)) (show M5 159 1 = v2 from ((gFr.at FM5 rc_159_1.2.2 rfl).trans hv2)) (by omega); intro g; have g2 := gDig_i g; rw [ze2] at g2; omega)); rw [q1] at q2; exact q2 g), by have q1 := gNs.k0 hK (by omega); omega⟩) | (exfalso; omega))⟩
        · refine g_aload_n (n := 21) X 0 dX7_readNumber_20 rfl rfl rfl ?_
          refine gg_7_0 (n := 24) (z := o + 1) X (by decide) (gsz hsz (by decide)) lay_159 kw_2_211 dX7_readNumber_21 rfl ((gFr.at FM5 rc_159_0.2.2 rfl).trans ht) (by omega) ?_
          refine g_aload_n (n := 25) X 0 dX7_readNumber_24 rfl rfl rfl ?_
          refine gg_7_2 (n := 28) (z := v41) X (by decide) (gsz hsz (by decide)) lay_159 kw_2_213 dX7_readNumber_25 rfl hv41 ?_
          obtain ⟨v46, hv46, rv46⟩ := gRd IM5 (A1o0 r_o) (A1osz hsz r_o) (rAA_1 r_o v41).1
          refine g_bald2 (n := 29) (v := v46) X (A1o0 r_o) (A1osz hsz r_o) (lay2_A1 r_o) (by omega) (by omega) (by decide) dX7_readNumber_28 rfl hv46 ?_
          refine g_bipush (n := 31) X dX7_readNumber_29 (by decide +kernel) rfl ?_
          refine g_icmp_lt (n := 34) (tgt := 92) X dX7_readNumber_31 (by decide) (by omega) (by omega) rfl (fun c47 => ?_) (fun c47 => ?_)
          · refine g_iload_n (n := 93) X 3 dX7_readNumber_92 rfl rfl rfl ?_
            refine g_if_ne (n := 96) (tgt := 100) X dX7_readNumber_93 (by decide) (by omega) rfl (fun c48 => ?_) (fun c48 => ?_)
            · refine g_iload_n (n := 101) X 2 dX7_readNumber_100 rfl rfl rfl ?_
              exact hq _ _ _ _ dX7_readNumber_101 ⟨by omega, IM5, CM5, (gFr.c gFr.rf FM5 rfl), (by have zb2 : M 159 2 = v1 := hv1; have ze2 : M5 159 2 = v41 := hv41; rw [zb2]; have q0 := hD.resolve_left (by omega); have g := gNs.fin hK (by omega) q0 (by first | (left; omega) | (right; right; omega) | (right; left; exact (by first | (have t : T v41 = v46 % 256 := gTc_in (gTc.eq hT (gFr.at ((gFr.c gFr.rf FM5 rfl) : gFr 536870912 M M5) rc_159_1.2.2 rfl) (fun b => gFr.at ((gFr.c gFr.rf FM5 rfl) : gFr 536870912 M M5) (rAA_1 r_o b).2.2 rfl)) (show M5 159 1 = v2 from ((gFr.at FM5 rc_159_1.2.2 rfl).trans hv2)) (by omega) (show M5 (o + 1) v41 = v46 from hv46); intro g; have g2 := gDig_i g; rw [ze2] at g2; omega) | (have t : T v41 = -1 := gTc_out (gTc.eq hT (gFr.at ((gFr.c gFr.rf FM5 rfl) : gFr 536870912 M M5) rc_159_1.2.2 rfl) (fun b => gFr.at ((gFr.c gFr.rf FM5 rfl) : gFr 536870912 M M5) (rAA_1 r_o b).2.2 rfl)) (show M5 159 1 = v2 from ((gFr.at FM5 rc_159_1.2.2 rfl).trans hv2)) (by omega); intro g; have g2 := gDig_i g; rw [ze2] at g2; omega)))); exact Or.inr ⟨by omega, q0, g.1, g.2⟩)⟩
            · refine g_iconst (n := 97) X dX7_readNumber_96 rfl ?_
              refine g_goto (tgt := 101) X dX7_readNumber_97 (by decide) ?_
              exact hq _ _ _ _ dX7_readNumber_101 ⟨by omega, IM5, CM5, (gFr.c gFr.rf FM5 rfl), (by have zb2 : M 159 2 = v1 := hv1; have ze2 : M5 159 2 = v41 := hv41; rw [zb2]; first | (exact Or.inl ⟨rfl, (by intro g; have q1 := gNs.k0 hK (by omega); have q2 : ¬ gDig (T (M5 159 2)) = true := (by first | (have t : T v41 = v46 % 256 := gTc_in (gTc.eq hT (gFr.at ((gFr.c gFr.rf FM5 rfl) : gFr 536870912 M M5) rc_159_1.2.2 rfl) (fun b => gFr.at ((gFr.c gFr.rf FM5 rfl) : gFr 536870912 M M5) (rAA_1 r_o b).2.2 rfl)) (show M5 159 1 = v2 from ((gFr.at FM5 rc_159_1.2.2 rfl).trans hv2)) (by omega) (show M5 (o + 1) v41 = v46 from hv46); intro g; have g2 := gDig_i g; rw [ze2] at g2; omega) | (have t : T v41 = -1 := gTc_out (gTc.eq hT (gFr.at ((gFr.c gFr.rf FM5 rfl) : gFr 536870912 M M5) rc_159_1.2.2 rfl) (fun b => gFr.at ((gFr.c gFr.rf FM5 rfl) : gFr 536870912 M M5) (rAA_1 r_o b).2.2 rfl)) (show M5 159 1 = v2 from ((gFr.at FM5 rc_159_1.2.2 rfl).trans hv2)) (by omega); intro g; have g2 := gDig_i g; rw [ze2] at g2; omega)); rw [q1] at q2; exact q2 g), by have q1 := gNs.k0 hK (by omega); omega⟩) | (exfalso; omega))⟩
          · refine g_aload_n (n := 35) X 0 dX7_readNumber_34 rfl rfl rfl ?_
            refine gg_7_0 (n := 38) (z := o + 1) X (by decide) (gsz hsz (by decide)) lay_159 kw_2_211 dX7_readNumber_35 rfl ((gFr.at FM5 rc_159_0.2.2 rfl).trans ht) (by omega) ?_
            refine g_aload_n (n := 39) X 0 dX7_readNumber_38 rfl rfl rfl ?_
            refine gg_7_2 (n := 42) (z := v41) X (by decide) (gsz hsz (by decide)) lay_159 kw_2_213 dX7_readNumber_39 rfl hv41 ?_
            refine g_bald2 (n := 43) (v := v46) X (A1o0 r_o) (A1osz hsz r_o) (lay2_A1 r_o) (by omega) (by omega) (by decide) dX7_readNumber_42 rfl hv46 ?_
            refine g_bipush (n := 45) X dX7_readNumber_43 (by decide +kernel) rfl ?_
            refine g_icmp_gt (n := 48) (tgt := 92) X dX7_readNumber_45 (by decide) (by omega) (by omega) rfl (fun c49 => ?_) (fun c49 => ?_)
            · refine g_iload_n (n := 93) X 3 dX7_readNumber_92 rfl rfl rfl ?_
              refine g_if_ne (n := 96) (tgt := 100) X dX7_readNumber_93 (by decide) (by omega) rfl (fun c50 => ?_) (fun c50 => ?_)
              · refine g_iload_n (n := 101) X 2 dX7_readNumber_100 rfl rfl rfl ?_
                exact hq _ _ _ _ dX7_readNumber_101 ⟨by omega, IM5, CM5, (gFr.c gFr.rf FM5 rfl), (by have zb2 : M 159 2 = v1 := hv1; have ze2 : M5 159 2 = v41 := hv41; rw [zb2]; have q0 := hD.resolve_left (by omega); have g := gNs.fin hK (by omega) q0 (by first | (left; omega) | (right; right; omega) | (right; left; exact (by first | (have t : T v41 = v46 % 256 := gTc_in (gTc.eq hT (gFr.at ((gFr.c gFr.rf FM5 rfl) : gFr 536870912 M M5) rc_159_1.2.2 rfl) (fun b => gFr.at ((gFr.c gFr.rf FM5 rfl) : gFr 536870912 M M5) (rAA_1 r_o b).2.2 rfl)) (show M5 159 1 = v2 from ((gFr.at FM5 rc_159_1.2.2 rfl).trans hv2)) (by omega) (show M5 (o + 1) v41 = v46 from hv46); intro g; have g2 := gDig_i g; rw [ze2] at g2; omega) | (have t : T v41 = -1 := gTc_out (gTc.eq hT (gFr.at ((gFr.c gFr.rf FM5 rfl) : gFr 536870912 M M5) rc_159_1.2.2 rfl) (fun b => gFr.at ((gFr.c gFr.rf FM5 rfl) : gFr 536870912 M M5) (rAA_1 r_o b).2.2 rfl)) (show M5 159 1 = v2 from ((gFr.at FM5 rc_159_1.2.2 rfl).trans hv2)) (by omega); intro g; have g2 := gDig_i g; rw [ze2] at g2; omega)))); exact Or.inr ⟨by omega, q0, g.1, g.2⟩)⟩
              · refine g_iconst (n := 97) X dX7_readNumber_96 rfl ?_
                refine g_goto (tgt := 101) X dX7_readNumber_97 (by decide) ?_
                exact hq _ _ _ _ dX7_readNumber_101 ⟨by omega, IM5, CM5, (gFr.c gFr.rf FM5 rfl), (by have zb2 : M 159 2 = v1 := hv1; have ze2 : M5 159 2 = v41 := hv41; rw [zb2]; first | (exact Or.inl ⟨rfl, (by intro g; have q1 := gNs.k0 hK (by omega); have q2 : ¬ gDig (T (M5 159 2)) = true := (by first | (have t : T v41 = v46 % 256 := gTc_in (gTc.eq hT (gFr.at ((gFr.c gFr.rf FM5 rfl) : gFr 536870912 M M5) rc_159_1.2.2 rfl) (fun b => gFr.at ((gFr.c gFr.rf FM5 rfl) : gFr 536870912 M M5) (rAA_1 r_o b).2.2 rfl)) (show M5 159 1 = v2 from ((gFr.at FM5 rc_159_1.2.2 rfl).trans hv2)) (by omega) (show M5 (o + 1) v41 = v46 from hv46); intro g; have g2 := gDig_i g; rw [ze2] at g2; omega) | (have t : T v41 = -1 := gTc_out (gTc.eq hT (gFr.at ((gFr.c gFr.rf FM5 rfl) : gFr 536870912 M M5) rc_159_1.2.2 rfl) (fun b => gFr.at ((gFr.c gFr.rf FM5 rfl) : gFr 536870912 M M5) (rAA_1 r_o b).2.2 rfl)) (show M5 159 1 = v2 from ((gFr.at FM5 rc_159_1.2.2 rfl).trans hv2)) (by omega); intro g; have g2 := gDig_i g; rw [ze2] at g2; omega)); rw [q1] at q2; exact q2 g), by have q1 := gNs.k0 hK (by omega); omega⟩) | (exfalso; omega))⟩
            · refine g_iload_n (n := 49) X 3 dX7_readNumber_48 rfl rfl rfl ?_
              refine g_if_le (n := 52) (tgt := 58) X dX7_readNumber_49 (by decide) (by omega) rfl (fun c51 => ?_) (fun c51 => ?_)
              · refine g_bipush (n := 60) X dX7_readNumber_58 (by decide +kernel) rfl ?_
                refine g_iload_n (n := 61) X 2 dX7_readNumber_60 rfl rfl rfl ?_
                refine g_imul (n := 62) (z := 10 * v3) X dX7_readNumber_61 rfl rfl ?_
                refine g_aload_n (n := 63) X 0 dX7_readNumber_62 rfl rfl rfl ?_
                refine gg_7_0 (n := 66) (z := o + 1) X (by decide) (gsz hsz (by decide)) lay_159 kw_2_211 dX7_readNumber_63 rfl ((gFr.at FM5 rc_159_0.2.2 rfl).trans ht) (by omega) ?_
                refine g_aload_n (n := 67) X 0 dX7_readNumber_66 rfl rfl rfl ?_
                refine gg_7_2 (n := 70) (z := v41) X (by decide) (gsz hsz (by decide)) lay_159 kw_2_213 dX7_readNumber_67 rfl hv41 ?_
                refine g_bald2 (n := 71) (v := v46) X (A1o0 r_o) (A1osz hsz r_o) (lay2_A1 r_o) (by omega) (by omega) (by decide) dX7_readNumber_70 rfl hv46 ?_
                refine g_iadd (n := 72) (z := (10 * v3) + v46) X dX7_readNumber_71 rfl rfl ?_
                refine g_bipush (n := 74) X dX7_readNumber_72 (by decide +kernel) rfl ?_
                refine g_isub (n := 75) (z := ((10 * v3) + v46) - 48) X dX7_readNumber_74 rfl rfl ?_
                refine g_istore_n (n := 76) (L' := [(2, gJ (((10 * v3) + v46) - 48)), (0, gA n0 159), (1, gJ a), (3, gJ v4)]) X dX7_readNumber_75 rfl (by decide) rfl rfl ?_
                refine g_iinc (n := 79) (w := v4 + 1) (L' := [(3, gJ (v4 + 1)), (2, gJ (((10 * v3) + v46) - 48)), (0, gA n0 159), (1, gJ a)]) X 3 dX7_readNumber_76 rfl rfl (by decide) rfl rfl ?_
                refine g_aload_n (n := 80) X 2 dX7_readNumber_79 rfl rfl rfl ?_
                refine g_dup (n := 81) X dX7_readNumber_80 rfl rfl ?_
                refine gg_7_2 (n := 84) (z := v41) X (by decide) (gsz hsz (by decide)) lay_159 kw_2_213 dX7_readNumber_81 rfl hv41 ?_
                refine g_iconst (n := 85) X dX7_readNumber_84 rfl ?_
                refine g_iadd (n := 86) (z := v41 + 1) X dX7_readNumber_85 (by omega) rfl ?_
                refine gp_7_2 (n := 89) X (by decide) (gsz hsz (by decide)) lay_159 kw_2_213 dX7_readNumber_86 rfl ?_
                refine G.nm (fun M52 e53 => ?_)
                have IM52 : gI sz M52 := gI.set IM5 rc_159_2.1 (by omega) e53
                have CM52 : gC sz M52 := gC.set CM5 rc_159_2.2.1 e53
                refine g_goto (tgt := 4) X dX7_readNumber_89 (by decide) ?_
                refine G.sub (L' := [(0, gA n0 159), (1, gJ a), (2, gJ (((10 * v3) + v46) - 48)), (3, gJ (v4 + 1))]) [2, 3, 1, 0] rfl ?_
                exact ih39 (((10 * v3) + v46) - 48) (v4 + 1) M52 (by omega) (by omega) IM52 CM52 (gFr.s (gFr.c gFr.rf FM5 rfl) e53 rc_159_2.2.2 rfl) (by omega) (by have t : T v41 = v46 % 256 := gTc_in (gTc.eq hT (gFr.at ((gFr.c gFr.rf FM5 rfl) : gFr 536870912 M M5) rc_159_1.2.2 rfl) (fun b => gFr.at ((gFr.c gFr.rf FM5 rfl) : gFr 536870912 M M5) (rAA_1 r_o b).2.2 rfl)) (show M5 159 1 = v2 from ((gFr.at FM5 rc_159_1.2.2 rfl).trans hv2)) (by omega) (show M5 (o + 1) v41 = v46 from hv46); have d2 : M5 159 2 = v41 := hv41; have ze2 : M52 159 2 = v41 + 1 := ((congrFun (congrFun e53 _) _).trans (gset_eq _ _ _ _)); exact gNs.step (c := v46) hK (by omega) (by rw [d2]; exact gDig_t (by omega)) (by rw [d2]; omega) (by omega) rfl (by omega) (by omega)) (by right; have t : T v41 = v46 % 256 := gTc_in (gTc.eq hT (gFr.at ((gFr.c gFr.rf FM5 rfl) : gFr 536870912 M M5) rc_159_1.2.2 rfl) (fun b => gFr.at ((gFr.c gFr.rf FM5 rfl) : gFr 536870912 M M5) (rAA_1 r_o b).2.2 rfl)) (show M5 159 1 = v2 from ((gFr.at FM5 rc_159_1.2.2 rfl).trans hv2)) (by omega) (show M5 (o + 1) v41 = v46 from hv46); have d2 : M5 159 2 = v41 := hv41; rcases hD with q0 | q0; (have q1 := gNs.k0 hK q0; rw [show v1 = v41 by omega]; exact gDig_t (by omega)); (exact q0)) (by omega)
              · refine g_iload_n (n := 53) X 2 dX7_readNumber_52 rfl rfl rfl ?_
                refine g_if_ne (n := 56) (tgt := 58) X dX7_readNumber_53 (by decide) (by omega) rfl (fun c54 => ?_) (fun c54 => ?_)
                · refine g_bipush (n := 60) X dX7_readNumber_58 (by decide +kernel) rfl ?_
                  refine g_iload_n (n := 61) X 2 dX7_readNumber_60 rfl rfl rfl ?_
                  refine g_imul (n := 62) (z := 10 * v3) X dX7_readNumber_61 rfl rfl ?_
                  refine g_aload_n (n := 63) X 0 dX7_readNumber_62 rfl rfl rfl ?_
                  refine gg_7_0 (n := 66) (z := o + 1) X (by decide) (gsz hsz (by decide)) lay_159 kw_2_211 dX7_readNumber_63 rfl ((gFr.at FM5 rc_159_0.2.2 rfl).trans ht) (by omega) ?_
                  refine g_aload_n (n := 67) X 0 dX7_readNumber_66 rfl rfl rfl ?_
                  refine gg_7_2 (n := 70) (z := v41) X (by decide) (gsz hsz (by decide)) lay_159 kw_2_213 dX7_readNumber_67 rfl hv41 ?_
                  refine g_bald2 (n := 71) (v := v46) X (A1o0 r_o) (A1osz hsz r_o) (lay2_A1 r_o) (by omega) (by omega) (by decide) dX7_readNumber_70 rfl hv46 ?_
                  refine g_iadd (n := 72) (z := (10 * v3) + v46) X dX7_readNumber_71 rfl rfl ?_
                  refine g_bipush (n := 74) X dX7_readNumber_72 (by decide +kernel) rfl ?_
                  refine g_isub (n := 75) (z := ((10 * v3) + v46) - 48) X dX7_readNumber_74 rfl rfl ?_
                  refine g_istore_n (n := 76) (L' := [(2, gJ (((10 * v3) + v46) - 48)), (0, gA n0 159), (1, gJ a), (3, gJ v4)]) X dX7_readNumber_75 rfl (by decide) rfl rfl ?_
                  refine g_iinc (n := 79) (w := v4 + 1) (L' := [(3, gJ (v4 + 1)), (2, gJ (((10 * v3) + v46) - 48)), (0, gA n0 159), (1, gJ a)]) X 3 dX7_readNumber_76 rfl rfl (by decide) rfl rfl ?_
                  refine g_aload_n (n := 80) X 2 dX7_readNumber_79 rfl rfl rfl ?_
                  refine g_dup (n := 81) X dX7_readNumber_80 rfl rfl ?_
                  refine gg_7_2 (n := 84) (z := v41) X (by decide) (gsz hsz (by decide)) lay_159 kw_2_213 dX7_readNumber_81 rfl hv41 ?_
                  refine g_iconst (n := 85) X dX7_readNumber_84 rfl ?_
                  refine g_iadd (n := 86) (z := v41 + 1) X dX7_readNumber_85 (by omega) rfl ?_
                  refine gp_7_2 (n := 89) X (by decide) (gsz hsz (by decide)) lay_159 kw_2_213 dX7_readNumber_86 rfl ?_
                  refine G.nm (fun M55 e56 => ?_)
                  have IM55 : gI sz M55 := gI.set IM5 rc_159_2.1 (by omega) e56
                  have CM55 : gC sz M55 := gC.set CM5 rc_159_2.2.1 e56
                  refine g_goto (tgt := 4) X dX7_readNumber_89 (by decide) ?_
                  refine G.sub (L' := [(0, gA n0 159), (1, gJ a), (2, gJ (((10 * v3) + v46) - 48)), (3, gJ (v4 + 1))]) [2, 3, 1, 0] rfl ?_
                  exact ih39 (((10 * v3) + v46) - 48) (v4 + 1) M55 (by omega) (by omega) IM55 CM55 (gFr.s (gFr.c gFr.rf FM5 rfl) e56 rc_159_2.2.2 rfl) (by omega) (by have t : T v41 = v46 % 256 := gTc_in (gTc.eq hT (gFr.at ((gFr.c gFr.rf FM5 rfl) : gFr 536870912 M M5) rc_159_1.2.2 rfl) (fun b => gFr.at ((gFr.c gFr.rf FM5 rfl) : gFr 536870912 M M5) (rAA_1 r_o b).2.2 rfl)) (show M5 159 1 = v2 from ((gFr.at FM5 rc_159_1.2.2 rfl).trans hv2)) (by omega) (show M5 (o + 1) v41 = v46 from hv46); have d2 : M5 159 2 = v41 := hv41; have ze2 : M55 159 2 = v41 + 1 := ((congrFun (congrFun e56 _) _).trans (gset_eq _ _ _ _)); exact gNs.step (c := v46) hK (by omega) (by rw [d2]; exact gDig_t (by omega)) (by rw [d2]; omega) (by omega) rfl (by omega) (by omega)) (by right; have t : T v41 = v46 % 256 := gTc_in (gTc.eq hT (gFr.at ((gFr.c gFr.rf FM5 rfl) : gFr 536870912 M M5) rc_159_1.2.2 rfl) (fun b => gFr.at ((gFr.c gFr.rf FM5 rfl) : gFr 536870912 M M5) (rAA_1 r_o b).2.2 rfl)) (show M5 159 1 = v2 from ((gFr.at FM5 rc_159_1.2.2 rfl).trans hv2)) (by omega) (show M5 (o + 1) v41 = v46 from hv46); have d2 : M5 159 2 = v41 := hv41; rcases hD with q0 | q0; (have q1 := gNs.k0 hK q0; rw [show v1 = v41 by omega]; exact gDig_t (by omega)); (exact q0)) (by omega)
                · refine g_iload_n (n := 57) X 2 dX7_readNumber_56 rfl rfl rfl ?_
                  exact hq _ _ _ _ dX7_readNumber_57 ⟨by omega, IM5, CM5, (gFr.c gFr.rf FM5 rfl), (by have zb2 : M 159 2 = v1 := hv1; have ze2 : M5 159 2 = v41 := hv41; rw [zb2]; have q0 := hD.resolve_left (by omega); have g := gNs.fin hK (by omega) q0 (by first | (left; omega) | (right; right; omega) | (right; left; exact (by first | (have t : T v41 = v46 % 256 := gTc_in (gTc.eq hT (gFr.at ((gFr.c gFr.rf FM5 rfl) : gFr 536870912 M M5) rc_159_1.2.2 rfl) (fun b => gFr.at ((gFr.c gFr.rf FM5 rfl) : gFr 536870912 M M5) (rAA_1 r_o b).2.2 rfl)) (show M5 159 1 = v2 from ((gFr.at FM5 rc_159_1.2.2 rfl).trans hv2)) (by omega) (show M5 (o + 1) v41 = v46 from hv46); intro g; have g2 := gDig_i g; rw [ze2] at g2; omega) | (have t : T v41 = -1 := gTc_out (gTc.eq hT (gFr.at ((gFr.c gFr.rf FM5 rfl) : gFr 536870912 M M5) rc_159_1.2.2 rfl) (fun b => gFr.at ((gFr.c gFr.rf FM5 rfl) : gFr 536870912 M M5) (rAA_1 r_o b).2.2 rfl)) (show M5 159 1 = v2 from ((gFr.at FM5 rc_159_1.2.2 rfl).trans hv2)) (by omega); intro g; have g2 := gDig_i g; rw [ze2] at g2; omega)))); exact Or.inr ⟨by omega, q0, g.1, g.2⟩)⟩
  refine G.sub (L' := [(0, gA n0 159), (1, gJ a), (2, gJ 0), (3, gJ 0)]) [2, 3, 1, 0] rfl ?_
  exact j6 _ 0 0 M (by omega) (by omega) I C gFr.rf (by omega) (Or.inl ⟨rfl, rfl, hv1⟩) (Or.inl rfl) (Nat.lt_succ_self _)
abbrev R_e_X7_closeOne : Room := { frames := 0, cells := 0, slots := 0, locals := 0 }
set_option maxRecDepth 100000 in
set_option maxHeartbeats 4000000 in
theorem e_X7_closeOne {l : Launch} {n0 : Nat} {D : va_G} {cA : Nat → ClassId} {M : gM} (o : Int) (r_o : 87 ≤ o ∧ o ≤ 147 ∧ (o - 87) % 6 = 0) {sz : Nat} (hsz : 206 ≤ sz) (I : gI sz M) (C : gC sz M) (ht : M 159 0 = o + 1 + 1) (h1 : (1 ≤ M 159 3 ∧ M 159 3 ≤ 6) ∧ 0 ≤ M 159 4 ∧ M 159 4 ≤ 63)  : Met l yX7_closeOne (gWsOf yX7_closeOne cX7_closeOne 1 (Option.none : Option Jvm.ClassFile.FieldType)) R_e_X7_closeOne (gPc n0 D cA [gA n0 159] M sz) (gQv n0 D cA sz (fun M1 => gI sz M1 ∧ gC sz M1 ∧ gFr 67108864 M M1 ∧ (M1 159 3 = M 159 3 - 1 ∧ M1 159 4 = M 159 4 / 2))) 0 0 (fun q => n0 ≤ q) := by
  refine gMetV [gA n0 159] (by decide) (Nat.le_of_ble_eq_true rfl) ⟨rfl, rfl⟩ ?_
  intro p e s m args below meth cd Q X hq
  have X : gCx p s m args meth cd n0 D cA "ParishUnion$Reader" cX7_closeOne 1 := X
  show G p l e R_e_X7_closeOne s m args below meth cd n0 D cA 1 Q 0 0 M sz 0 [(0, gA n0 159)] []
  obtain ⟨v1, hv1, rv1⟩ := gRd I (by decide) (gsz hsz (by decide)) rc_159_3.1
  obtain ⟨v2, hv2, rv2⟩ := gRd I (by decide) (gsz hsz (by decide)) rc_159_4.1
  refine g_aload_n (n := 1) X 0 dX7_closeOne_0 rfl rfl rfl ?_
  refine g_dup (n := 2) X dX7_closeOne_1 rfl rfl ?_
  refine gg_7_4 (n := 5) (z := v2) X (by decide) (gsz hsz (by decide)) lay_159 kw_2_215 dX7_closeOne_2 rfl hv2 ?_
  refine g_iconst (n := 6) X dX7_closeOne_5 rfl ?_
  refine g_ishrE (n := 7) (z := v2 / 2) X dX7_closeOne_6 (gi_shr1 (by omega)) rfl ?_
  refine gp_7_4 (n := 10) X (by decide) (gsz hsz (by decide)) lay_159 kw_2_215 dX7_closeOne_7 rfl ?_
  refine G.nm (fun M3 e4 => ?_)
  have IM3 : gI sz M3 := gI.set I rc_159_4.1 (by omega) e4
  have CM3 : gC sz M3 := gC.set C rc_159_4.2.1 e4
  refine g_aload_n (n := 11) X 0 dX7_closeOne_10 rfl rfl rfl ?_
  refine g_dup (n := 12) X dX7_closeOne_11 rfl rfl ?_
  refine gg_7_3 (n := 15) (z := v1) X (by decide) (gsz hsz (by decide)) lay_159 kw_2_214 dX7_closeOne_12 rfl ((congrFun (congrFun e4 _) _).trans ((gset_ne (by omega)).trans hv1)) ?_
  refine g_iconst (n := 16) X dX7_closeOne_15 rfl ?_
  refine g_isub (n := 17) (z := v1 - 1) X dX7_closeOne_16 (by omega) rfl ?_
  refine gp_7_3 (n := 20) X (by decide) (gsz hsz (by decide)) lay_159 kw_2_214 dX7_closeOne_17 rfl ?_
  refine G.nm (fun M5 e6 => ?_)
  have IM5 : gI sz M5 := gI.set IM3 rc_159_3.1 (by omega) e6
  have CM5 : gC sz M5 := gC.set CM3 rc_159_3.2.1 e6
  exact hq _ _ _ dX7_closeOne_20 ⟨IM5, CM5, (gFr.s (gFr.s gFr.rf e4 rc_159_4.2.2 rfl) e6 rc_159_3.2.2 rfl), (by have zb3 : M 159 3 = v1 := hv1; have zb4 : M 159 4 = v2 := hv2; have ze3 : M5 159 3 = v1 - 1 := ((congrFun (congrFun e6 _) _).trans (gset_eq _ _ _ _)); have ze4 : M5 159 4 = v2 / 2 := ((congrFun (congrFun e6 _) _).trans ((gset_ne (by omega)).trans ((congrFun (congrFun e4 _) _).trans (gset_eq _ _ _ _)))); omega)⟩
abbrev R_e_X7_endNots : Room := { frames := 1, cells := 0, slots := 0, locals := 20 }
set_option maxRecDepth 100000 in
set_option maxHeartbeats 4000000 in
theorem e_X7_endNots {l : Launch} {n0 : Nat} {D : va_G} {cA : Nat → ClassId} {M : gM} (o : Int) (r_o : 87 ≤ o ∧ o ≤ 147 ∧ (o - 87) % 6 = 0) {sz : Nat} (hsz : 206 ≤ sz) (I : gI sz M) (C : gC sz M) (ht : M 159 0 = o + 1 + 1) (stk : List Bool) (h3 : M 159 3 = (stk.length : Int)) (h4 : M 159 4 = gBt stk)  : Met l yX7_endNots (gWsOf yX7_endNots cX7_endNots 2 (Option.none : Option Jvm.ClassFile.FieldType)) R_e_X7_endNots (gPc n0 D cA [gA n0 159] M sz) (gQv n0 D cA sz (fun M1 => gI sz M1 ∧ gC sz M1 ∧ gFr 67108864 M M1 ∧ (M1 159 3 = ((gEnd stk).length : Int) ∧ M1 159 4 = gBt (gEnd stk)))) 0 0 (fun q => n0 ≤ q) := by
  refine gMetV [gA n0 159] (by decide) (Nat.le_of_ble_eq_true rfl) ⟨rfl, rfl⟩ ?_
  intro p e s m args below meth cd Q X hq
  have X : gCx p s m args meth cd n0 D cA "ParishUnion$Reader" cX7_endNots 2 := X
  show G p l e R_e_X7_endNots s m args below meth cd n0 D cA 2 Q 0 0 M sz 0 [(0, gA n0 159)] []
  obtain ⟨v1, hv1, rv1⟩ := gRd I (by decide) (gsz hsz (by decide)) rc_159_3.1
  obtain ⟨v2, hv2, rv2⟩ := gRd I (by decide) (gsz hsz (by decide)) rc_159_4.1
  refine g_iconst (n := 1) X dX7_endNots_0 rfl ?_
  refine g_istore_n (n := 2) (L' := [(1, gJ 0), (0, gA n0 159)]) X dX7_endNots_1 rfl (by decide) rfl rfl ?_
  have j5 : ∀ (N56 : Nat) (v3 : Int) (M4 : gM) , (0 ≤ v3 ∧ v3 ≤ 6) → gI sz M4 → gC sz M4 → gFr 67108864 M M4 → (∃ s1 : List Bool, gEnd s1 = gEnd stk ∧ M4 159 3 = (s1.length : Int) ∧ M4 159 4 = gBt s1 ∧ (s1.length : Int) + v3 ≤ 6) → (6 - v3).toNat < N56 → G p l e R_e_X7_endNots s m args below meth cd n0 D cA 2 Q 0 0 M4 sz 2 [(0, gA n0 159), (1, gJ v3)] [] := by
    intro N56; induction N56 with
    | zero => intro v3 M4 rv3 IM4 CM4 FM4 hL hm58; exfalso; omega
    | succ N56 ih57 =>
      intro v3 M4 rv3 IM4 CM4 FM4 hL hm58
      obtain ⟨s1, k1, k3, k4, k6⟩ := hL
      have kb := gBt_6 (s := s1) (by omega)
      obtain ⟨v59, hv59, rv59⟩ := gRd IM4 (by decide) (gsz hsz (by decide)) rc_159_3.1
      obtain ⟨v60, hv60, rv60⟩ := gRd IM4 (by decide) (gsz hsz (by decide)) rc_159_4.1
      have kk3 : v59 = (s1.length : Int) := hv59.symm.trans k3
      have kk4 : v60 = gBt s1 := hv60.symm.trans k4
      refine g_iload_n (n := 3) X 1 dX7_endNots_2 rfl rfl rfl ?_
      refine g_bipush (n := 5) X dX7_endNots_3 (by decide +kernel) rfl ?_
      refine g_icmp_ge (n := 8) (tgt := 35) X dX7_endNots_5 (by decide) (by omega) (by omega) rfl (fun c61 => ?_) (fun c61 => ?_)
      · exact hq _ _ _ dX7_endNots_35 ⟨IM4, CM4, (gFr.c gFr.rf FM4 rfl), (by have ze3 : M4 159 3 = v59 := hv59; have ze4 : M4 159 4 = v60 := hv60; cases s1 with | nil => (rw [← k1]; exact ⟨k3, k4⟩) | cons c s2 => (have q1 : ((c :: s2).length : Int) = (s2.length : Int) + 1 := by rw [List.length_cons]; omega); have q2 := gBt_c (b := c) (s := s2); cases c with | true => (exfalso; rw [if_pos rfl] at q2; omega) | false => (rw [← k1]; exact ⟨k3, k4⟩))⟩
      · refine g_aload_n (n := 9) X 0 dX7_endNots_8 rfl rfl rfl ?_
        refine gg_7_3 (n := 12) (z := v59) X (by decide) (gsz hsz (by decide)) lay_159 kw_2_214 dX7_endNots_9 rfl hv59 ?_
        refine g_if_le (n := 15) (tgt := 35) X dX7_endNots_12 (by decide) (by omega) rfl (fun c62 => ?_) (fun c62 => ?_)
        · exact hq _ _ _ dX7_endNots_35 ⟨IM4, CM4, (gFr.c gFr.rf FM4 rfl), (by have ze3 : M4 159 3 = v59 := hv59; have ze4 : M4 159 4 = v60 := hv60; cases s1 with | nil => (rw [← k1]; exact ⟨k3, k4⟩) | cons c s2 => (have q1 : ((c :: s2).length : Int) = (s2.length : Int) + 1 := by rw [List.length_cons]; omega); have q2 := gBt_c (b := c) (s := s2); cases c with | true => (exfalso; rw [if_pos rfl] at q2; omega) | false => (rw [← k1]; exact ⟨k3, k4⟩))⟩
        · refine g_aload_n (n := 16) X 0 dX7_endNots_15 rfl rfl rfl ?_
          refine gg_7_4 (n := 19) (z := v60) X (by decide) (gsz hsz (by decide)) lay_159 kw_2_215 dX7_endNots_16 rfl hv60 ?_
          refine g_iconst (n := 20) X dX7_endNots_19 rfl ?_
          refine g_iandE (n := 21) (z := v60 % 2) X dX7_endNots_20 (gi_and1 (by omega)) rfl ?_
          refine g_iconst (n := 22) X dX7_endNots_21 rfl ?_
          refine g_icmp_ne (n := 25) (tgt := 35) X dX7_endNots_22 (by decide) (by omega) (by omega) rfl (fun c63 => ?_) (fun c63 => ?_)
          · exact hq _ _ _ dX7_endNots_35 ⟨IM4, CM4, (gFr.c gFr.rf FM4 rfl), (by have ze3 : M4 159 3 = v59 := hv59; have ze4 : M4 159 4 = v60 := hv60; cases s1 with | nil => (rw [← k1]; exact ⟨k3, k4⟩) | cons c s2 => (have q1 : ((c :: s2).length : Int) = (s2.length : Int) + 1 := by rw [List.length_cons]; omega); have q2 := gBt_c (b := c) (s := s2); cases c with | true => (exfalso; rw [if_pos rfl] at q2; omega) | false => (rw [← k1]; exact ⟨k3, k4⟩))⟩
          · refine g_aload_n (n := 26) X 0 dX7_endNots_25 rfl rfl rfl ?_
            refine g_callVv (n := 29) (As := []) (rest := []) (cs1 := 0) (ss1 := 0) X (e_X7_closeOne o r_o hsz IM4 CM4 ((gFr.at FM4 rc_159_0.2.2 rfl).trans ht) (by have t3 : M4 159 3 = v59 := hv59; have t4 : M4 159 4 = v60 := hv60; omega)) okX7_closeOne kw_4_83 ⟨kw_4_85, kw_0_16⟩ ⟨rfl, rfl⟩ ⟨Nat.le_of_ble_eq_true rfl, Nat.le_of_ble_eq_true rfl⟩ rfl (by decide) (gsz hsz (by decide)) lay_159 rfl rfl (Nat.le_of_ble_eq_true rfl) ⟨Nat.le_of_ble_eq_true rfl, Nat.le_of_ble_eq_true rfl⟩ rfl rfl dX7_endNots_26 rfl (fun M65 P66 => ?_)
            obtain ⟨IM65, CM65, FM65, xM65⟩ := P66
            rw [show M4 159 3 = v59 from hv59] at xM65
            rw [show M4 159 4 = v60 from hv60] at xM65
            obtain ⟨v67, hv67, rv67⟩ := gRd IM65 (by decide) (gsz hsz (by decide)) rc_159_3.1
            obtain ⟨v68, hv68, rv68⟩ := gRd IM65 (by decide) (gsz hsz (by decide)) rc_159_4.1
            rw [hv67, hv68] at xM65
            have rrM65 : (0 ≤ v67 ∧ v67 ≤ 5) ∧ (0 ≤ v68 ∧ v68 ≤ 31) := by omega
            refine g_iinc (n := 32) (w := v3 + 1) (L' := [(1, gJ (v3 + 1)), (0, gA n0 159)]) X 1 dX7_endNots_29 rfl rfl (by decide) rfl rfl ?_
            refine g_goto (tgt := 2) X dX7_endNots_32 (by decide) ?_
            refine G.sub (L' := [(0, gA n0 159), (1, gJ (v3 + 1))]) [1, 0] rfl ?_
            exact ih57 (v3 + 1) M65 (by omega) IM65 CM65 (gFr.c (gFr.c gFr.rf FM4 rfl) FM65 rfl) (by cases s1 with | nil => (exfalso; have q1 : (([] : List Bool).length : Int) = 0 := rfl; omega) | cons c s2 => (have q1 : ((c :: s2).length : Int) = (s2.length : Int) + 1 := by rw [List.length_cons]; omega); have q2 := gBt_c (b := c) (s := s2); have ze3 : M65 159 3 = v67 := hv67; have ze4 : M65 159 4 = v68 := hv68; cases c with | true => (rw [if_pos rfl] at q2; exact ⟨s2, k1, by omega, by omega, by omega⟩) | false => (exfalso; rw [if_neg (by decide)] at q2; omega)) (by omega)
  refine G.sub (L' := [(0, gA n0 159), (1, gJ 0)]) [1, 0] rfl ?_
  exact j5 _ 0 M (by omega) I C gFr.rf ⟨stk, rfl, h3, h4, by omega⟩ (Nat.lt_succ_self _)
