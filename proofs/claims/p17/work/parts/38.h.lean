/-- the text of an ACT, and the tape, as functions -/
def gTa (M : gM) (o p : Int) : Int := if 0 ≤ p ∧ p < M o 5 then M (o + 1) p % 256 else -1
def gTt (M : gM) (p : Int) : Int := if 0 ≤ p ∧ p < M 1 14 then M 8 p % 256 else -1
theorem gTc_of {M M1 : gM} {T : Int → Int} {o n : Int} (hA : gTa M o = T) (hn : M o 5 = n) (h1 : M1 159 1 = n) (h2 : ∀ b : Int, M1 (o + 1) b = M (o + 1) b) : gTc M1 o = T := by
  rw [← hA]; funext p; unfold gTc gTa; rw [h1, hn, h2]
theorem gTa_of {M M1 : gM} {o n : Int} (h5 : M1 o 5 = n) (hn : M 1 14 = n) (ht : ∀ i : Int, 0 ≤ i → i < n → M1 (o + 1) i = M 8 i) : gTa M1 o = gTt M := by
  funext p; unfold gTa gTt; rw [h5, hn]
  by_cases h : 0 ≤ p ∧ p < n
  · rw [if_pos h, if_pos h, ht p h.1 h.2]
  · rw [if_neg h, if_neg h]
theorem gCl_no {T : Int → Int} {p q : Int} (h : gWrd T p = (-1, q)) : (gCl T p).2.2.2 = -1 - q := by
  unfold gCl; rw [h, if_pos (by show (-1 : Int) < 0; decide)]
theorem gCl_of {T : Int → Int} {p w q : Int} (h : gWrd T p = (w, q)) (hw : 0 ≤ w) : gCl T p = gClW T w q := by
  unfold gCl; rw [h, if_neg (by show ¬ w < 0; omega)]
theorem gClW_v {T : Int → Int} {w q r : Int} (h : gVal T w q = (-1, r)) : (gClW T w q).2.2.2 = -1 - r := by
  unfold gClW; rw [h, if_pos (by show (-1 : Int) < 0; decide)]
theorem gClW_1 {T : Int → Int} {w q v r : Int} (h : gVal T w q = (v, r)) (hv : 0 ≤ v) (hw : ¬ (w = 8 ∨ w = 9)) : gClW T w q = (w, v, -1, r) := by
  unfold gClW; rw [h, if_neg (by show ¬ v < 0; omega), if_neg hw]
theorem gClW_2 {T : Int → Int} {w q v r : Int} (h : gVal T w q = (v, r)) (hv : 0 ≤ v) (hw : w = 8 ∨ w = 9) (ht : T r = 32) : gClW T w q = (w, v, r + 1, gR T (r + 1) [] true) := by
  unfold gClW; rw [h, if_neg (by show ¬ v < 0; omega), if_pos hw]
  show (if T r = 32 then _ else _) = _
  rw [if_pos ht]
theorem gClW_3 {T : Int → Int} {w q v r : Int} (h : gVal T w q = (v, r)) (hv : 0 ≤ v) (hw : w = 8 ∨ w = 9) (ht : ¬ T r = 32) : gClW T w q = (w, v, -1, -1 - r) := by
  unfold gClW; rw [h, if_neg (by show ¬ v < 0; omega), if_pos hw]
  show (if T r = 32 then _ else _) = _
  rw [if_neg ht]
theorem gAct_bad {T : Int → Int} {n p q : Int} {f : Nat} (h : (gCl T p).2.2.2 = -1 - q) (hq : 0 ≤ q) : gAct T n (f + 1) p = q := by
  unfold gAct; rw [h, if_pos (by omega)]; omega
theorem gAct_end {T : Int → Int} {n p q : Int} {f : Nat} (h : (gCl T p).2.2.2 = q) (h0 : 0 ≤ q) (hq : q = n) : gAct T n (f + 1) p = -1 := by
  unfold gAct; rw [h, if_neg (by omega), if_pos hq]
theorem gAct_no {T : Int → Int} {n p q : Int} {f : Nat} (h : (gCl T p).2.2.2 = q) (h0 : 0 ≤ q) (hq : ¬ q = n) (hf : f = 0 ∨ ¬ T q = 59) : gAct T n (f + 1) p = q := by
  unfold gAct; rw [h, if_neg (by omega), if_neg hq]
  by_cases c : f = 0
  · rw [if_pos c]
  · rw [if_neg c, if_neg (hf.resolve_left c)]
theorem gAct_next {T : Int → Int} {n p q : Int} {f : Nat} (h : (gCl T p).2.2.2 = q) (h0 : 0 ≤ q) (hq : ¬ q = n) (hf : ¬ f = 0) (ht : T q = 59) : gAct T n (f + 1) p = gAct T n f (q + 1) := by
  conv => lhs; unfold gAct
  rw [h, if_neg (by omega), if_neg hq, if_neg hf, if_pos ht]
abbrev R_e_X0_addClause : Room := { frames := 4, cells := 0, slots := 0, locals := 120 }
set_option maxRecDepth 100000 in
set_option maxHeartbeats 4000000 in
theorem e_X0_addClause {l : Launch} {n0 : Nat} {D : va_G} {cA : Nat → ClassId} {M : gM} (o : Int) (r_o : 87 ≤ o ∧ o ≤ 147 ∧ (o - 87) % 6 = 0) (a : Int) (r_a : 0 ≤ a ∧ a ≤ 9) (b : Int) (r_b : -2147483648 ≤ b ∧ b ≤ 2147483647) (c : Int) (r_c : 0 ≤ c ∧ c ≤ 150) {sz : Nat} (hsz : 206 ≤ sz) (I : gI sz M) (C : gC sz M) (hw : a = 9 → 0 ≤ b ∧ b ≤ 3) (hb9 : (a = 8 ∨ a = 9) → M (o + 2) a ≤ 100)  : Met l yX0_addClause (gWsOf yX0_addClause cX0_addClause 4 (Option.none : Option Jvm.ClassFile.FieldType)) R_e_X0_addClause (gPc n0 D cA [gA n0 o, gJ a, gJ b, gJ c] M sz) (gQv n0 D cA sz (fun M1 => gI sz M1 ∧ gC sz M1 ∧ gFr 256 M M1 ∧ ((∀ i : Int, M1 (o + 1) i = M (o + 1) i) ∧ (M o 7 < 8 → M1 o 7 = M o 7 + 1 ∧ M1 (o + 2) a = gUp (M (o + 2) a) a b) ∧ (∀ k : Int, ¬ k = a → M1 (o + 2) k = M (o + 2) k) ∧ M1 o 6 = M o 6 ∧ (∀ q : Int, 87 ≤ q ∧ q ≤ 147 ∧ (q - 87) % 6 = 0 → ¬ q = o → M1 q 6 = M q 6 ∧ (∀ k : Int, M1 (q + 2) k = M (q + 2) k))))) 0 0 (fun q => n0 ≤ q) := by
  refine gMetV [gA n0 o, gJ a, gJ b, gJ c] (by decide) (Nat.le_of_ble_eq_true rfl) ⟨rfl, rfl⟩ ?_
  intro p e s m args below meth cd Q X hq
  have X : gCx p s m args meth cd n0 D cA "ParishUnion$Act" cX0_addClause 4 := X
  show G p l e R_e_X0_addClause s m args below meth cd n0 D cA 4 Q 0 0 M sz 0 [(0, gA n0 o), (1, gJ a), (2, gJ b), (3, gJ c)] []
  obtain ⟨v1, hv1, rv1⟩ := gRd I (Ao0 r_o) (Aosz hsz r_o) (rA_7 r_o).1
  obtain ⟨v2, hv2, rv2⟩ := gRd I (A2o0 r_o) (A2osz hsz r_o) (rAA_2 r_o a).1
  refine g_aload_n (n := 1) X 0 dX0_addClause_0 rfl rfl rfl ?_
  refine gg_0_7 (n := 4) (z := v1) X (Ao0 r_o) (Aosz hsz r_o) (lay2_A r_o) kw_2_85 dX0_addClause_1 rfl hv1 ?_
  refine g_bipush (n := 6) X dX0_addClause_4 (by decide +kernel) rfl ?_
  refine g_icmp_lt (n := 9) (tgt := 10) X dX0_addClause_6 (by decide) (by omega) (by omega) rfl (fun c3 => ?_) (fun c3 => ?_)
  · refine g_aload_n (n := 11) X 0 dX0_addClause_10 rfl rfl rfl ?_
    refine gg_0_2 (n := 14) (z := o + 3) X (Ao0 r_o) (Aosz hsz r_o) (lay2_A r_o) kw_2_75 dX0_addClause_11 rfl (rfA_2 I hsz r_o) (by omega) ?_
    refine g_aload_n (n := 15) X 0 dX0_addClause_14 rfl rfl rfl ?_
    refine gg_0_7 (n := 18) (z := v1) X (Ao0 r_o) (Aosz hsz r_o) (lay2_A r_o) kw_2_85 dX0_addClause_15 rfl hv1 ?_
    refine g_iload_n (n := 19) X 1 dX0_addClause_18 rfl rfl rfl ?_
    refine g_iast (n := 20) X (A3o0 r_o) (A3osz hsz r_o) (lay2_A3 r_o) (by omega) (by omega) (by decide) dX0_addClause_19 rfl ?_
    refine G.nm (fun M4 e5 => ?_)
    have IM4 : gI sz M4 := gI.set I (rAA_3 r_o v1).1 (by omega) e5
    refine g_aload_n (n := 21) X 0 dX0_addClause_20 rfl rfl rfl ?_
    refine gg_0_3 (n := 24) (z := o + 4) X (Ao0 r_o) (Aosz hsz r_o) (lay2_A r_o) kw_2_77 dX0_addClause_21 rfl (rfA_3 IM4 hsz r_o) (by omega) ?_
    refine g_aload_n (n := 25) X 0 dX0_addClause_24 rfl rfl rfl ?_
    refine gg_0_7 (n := 28) (z := v1) X (Ao0 r_o) (Aosz hsz r_o) (lay2_A r_o) kw_2_85 dX0_addClause_25 rfl ((congrFun (congrFun e5 _) _).trans ((gset_ne (by omega)).trans hv1)) ?_
    refine g_iload_n (n := 29) X 2 dX0_addClause_28 rfl rfl rfl ?_
    refine g_iast (n := 30) X (A4o0 r_o) (A4osz hsz r_o) (lay2_A4 r_o) (by omega) (by omega) (by decide) dX0_addClause_29 rfl ?_
    refine G.nm (fun M6 e7 => ?_)
    have IM6 : gI sz M6 := gI.set IM4 (rAA_4 r_o v1).1 (by omega) e7
    have CM6 : gC sz M6 := gC.act C r_o e5 e7 (by omega)
    refine g_aload_n (n := 31) X 0 dX0_addClause_30 rfl rfl rfl ?_
    refine gg_0_4 (n := 34) (z := o + 5) X (Ao0 r_o) (Aosz hsz r_o) (lay2_A r_o) kw_2_79 dX0_addClause_31 rfl (rfA_4 IM6 hsz r_o) (by omega) ?_
    refine g_aload_n (n := 35) X 0 dX0_addClause_34 rfl rfl rfl ?_
    refine gg_0_7 (n := 38) (z := v1) X (Ao0 r_o) (Aosz hsz r_o) (lay2_A r_o) kw_2_85 dX0_addClause_35 rfl ((congrFun (congrFun e7 _) _).trans ((gset_ne (by omega)).trans ((congrFun (congrFun e5 _) _).trans ((gset_ne (by omega)).trans hv1)))) ?_
    refine g_iload_n (n := 39) X 3 dX0_addClause_38 rfl rfl rfl ?_
    refine g_iast (n := 40) X (A5o0 r_o) (A5osz hsz r_o) (lay2_A5 r_o) (by omega) (by omega) (by decide) dX0_addClause_39 rfl ?_
    refine G.nm (fun M8 e9 => ?_)
    have IM8 : gI sz M8 := gI.set IM6 (rAA_5 r_o v1).1 (by omega) e9
    have CM8 : gC sz M8 := gC.set CM6 (rAA_5 r_o v1).2.1 e9
    refine g_aload_n (n := 41) X 0 dX0_addClause_40 rfl rfl rfl ?_
    refine g_dup (n := 42) X dX0_addClause_41 rfl rfl ?_
    refine gg_0_7 (n := 45) (z := v1) X (Ao0 r_o) (Aosz hsz r_o) (lay2_A r_o) kw_2_85 dX0_addClause_42 rfl ((congrFun (congrFun e9 _) _).trans ((gset_ne (by omega)).trans ((congrFun (congrFun e7 _) _).trans ((gset_ne (by omega)).trans ((congrFun (congrFun e5 _) _).trans ((gset_ne (by omega)).trans hv1)))))) ?_
    refine g_iconst (n := 46) X dX0_addClause_45 rfl ?_
    refine g_iadd (n := 47) (z := v1 + 1) X dX0_addClause_46 (by omega) rfl ?_
    refine gp_0_7 (n := 50) X (Ao0 r_o) (Aosz hsz r_o) (lay2_A r_o) kw_2_85 dX0_addClause_47 rfl ?_
    refine G.nm (fun M10 e11 => ?_)
    have IM10 : gI sz M10 := gI.set IM8 (rA_7 r_o).1 (by omega) e11
    have CM10 : gC sz M10 := gC.set CM8 (rA_7 r_o).2.1 e11
    refine g_iload_n (n := 51) X 1 dX0_addClause_50 rfl rfl rfl ?_
    refine g_bipush (n := 53) X dX0_addClause_51 (by decide +kernel) rfl ?_
    refine g_icmp_eq (n := 56) (tgt := 62) X dX0_addClause_53 (by decide) (by omega) (by omega) rfl (fun c12 => ?_) (fun c12 => ?_)
    · refine g_aload_n (n := 63) X 0 dX0_addClause_62 rfl rfl rfl ?_
      refine gg_0_1 (n := 66) (z := o + 2) X (Ao0 r_o) (Aosz hsz r_o) (lay2_A r_o) kw_2_73 dX0_addClause_63 rfl (rfA_1 IM10 hsz r_o) (by omega) ?_
      refine g_iload_n (n := 67) X 1 dX0_addClause_66 rfl rfl rfl ?_
      refine g_iconst (n := 68) X dX0_addClause_67 rfl ?_
      refine g_aload_n (n := 69) X 0 dX0_addClause_68 rfl rfl rfl ?_
      refine gg_0_1 (n := 72) (z := o + 2) X (Ao0 r_o) (Aosz hsz r_o) (lay2_A r_o) kw_2_73 dX0_addClause_69 rfl (rfA_1 IM10 hsz r_o) (by omega) ?_
      refine g_iload_n (n := 73) X 1 dX0_addClause_72 rfl rfl rfl ?_
      refine g_iald2 (n := 74) (v := v2) X (A2o0 r_o) (A2osz hsz r_o) (lay2_A2 r_o) (by omega) (by omega) (by decide) dX0_addClause_73 rfl ((congrFun (congrFun e11 _) _).trans ((gset_ne (by omega)).trans ((congrFun (congrFun e9 _) _).trans ((gset_ne (by omega)).trans ((congrFun (congrFun e7 _) _).trans ((gset_ne (by omega)).trans ((congrFun (congrFun e5 _) _).trans ((gset_ne (by omega)).trans hv2)))))))) ?_
      refine g_mmax (n := 77) X kw_4_67 kw_3_153 kw_1_14 kw_3_154 (by omega) (by omega) (Nat.le_of_ble_eq_true rfl) (Nat.le_of_ble_eq_true rfl) (Nat.le_of_ble_eq_true rfl) (Nat.le_of_ble_eq_true rfl) dX0_addClause_74 rfl (fun x13 hx13 => ?_)
      have rx13 : 0 ≤ x13 ∧ x13 ≤ 100 := by omega
      refine g_iconst (n := 78) X dX0_addClause_77 rfl ?_
      refine g_iadd (n := 79) (z := x13 + 1) X dX0_addClause_78 (by omega) rfl ?_
      refine g_iast (n := 80) X (A2o0 r_o) (A2osz hsz r_o) (lay2_A2 r_o) (by omega) (by omega) (by decide) dX0_addClause_79 rfl ?_
      refine G.nm (fun M14 e15 => ?_)
      have IM14 : gI sz M14 := gI.set IM10 (rAA_2 r_o a).1 (by omega) e15
      have CM14 : gC sz M14 := gC.set CM10 (rAA_2 r_o a).2.1 e15
      refine g_goto (tgt := 90) X dX0_addClause_80 (by decide) ?_
      exact hq _ _ _ dX0_addClause_90 ⟨IM14, CM14, (gFr.s (gFr.s (gFr.s (gFr.s (gFr.s gFr.rf e5 (rAA_3 r_o v1).2.2 rfl) e7 (rAA_4 r_o v1).2.2 rfl) e9 (rAA_5 r_o v1).2.2 rfl) e11 (rA_7 r_o).2.2 rfl) e15 (rAA_2 r_o a).2.2 rfl), ⟨(fun i => ((congrFun (congrFun e15 _) _).trans ((gset_ne (by omega)).trans ((congrFun (congrFun e11 _) _).trans ((gset_ne (by omega)).trans ((congrFun (congrFun e9 _) _).trans ((gset_ne (by omega)).trans ((congrFun (congrFun e7 _) _).trans ((gset_ne (by omega)).trans ((congrFun (congrFun e5 _) _).trans ((gset_ne (by omega)).trans rfl))))))))))), (by have zb7 : M o 7 = v1 := hv1; have zbs : M (o + 2) a = v2 := hv2; have ze7 : M14 o 7 = v1 + 1 := ((congrFun (congrFun e15 _) _).trans ((gset_ne (by omega)).trans ((congrFun (congrFun e11 _) _).trans (gset_eq _ _ _ _)))); have zes : M14 (o + 2) a = x13 + 1 := ((congrFun (congrFun e15 _) _).trans (gset_eq _ _ _ _)); intro hc; refine ⟨by omega, ?_⟩; rw [zes, zbs]; unfold gUp; first | (rw [if_neg (by omega)]) | (rw [if_pos (by omega)]; by_cases g9 : v2 < 0; (rw [if_pos g9]; omega); (rw [if_neg g9]; omega))), (fun k hk => ((congrFun (congrFun e15 _) _).trans ((gset_ne (by omega)).trans ((congrFun (congrFun e11 _) _).trans ((gset_ne (by omega)).trans ((congrFun (congrFun e9 _) _).trans ((gset_ne (by omega)).trans ((congrFun (congrFun e7 _) _).trans ((gset_ne (by omega)).trans ((congrFun (congrFun e5 _) _).trans ((gset_ne (by omega)).trans rfl))))))))))), ((congrFun (congrFun e15 _) _).trans ((gset_ne (by omega)).trans ((congrFun (congrFun e11 _) _).trans ((gset_ne (by omega)).trans ((congrFun (congrFun e9 _) _).trans ((gset_ne (by omega)).trans ((congrFun (congrFun e7 _) _).trans ((gset_ne (by omega)).trans ((congrFun (congrFun e5 _) _).trans ((gset_ne (by omega)).trans rfl)))))))))), (fun q hq hn => ⟨((congrFun (congrFun e15 _) _).trans ((gset_ne (by omega)).trans ((congrFun (congrFun e11 _) _).trans ((gset_ne (by omega)).trans ((congrFun (congrFun e9 _) _).trans ((gset_ne (by omega)).trans ((congrFun (congrFun e7 _) _).trans ((gset_ne (by omega)).trans ((congrFun (congrFun e5 _) _).trans ((gset_ne (by omega)).trans rfl)))))))))), fun k => ((congrFun (congrFun e15 _) _).trans ((gset_ne (by omega)).trans ((congrFun (congrFun e11 _) _).trans ((gset_ne (by omega)).trans ((congrFun (congrFun e9 _) _).trans ((gset_ne (by omega)).trans ((congrFun (congrFun e7 _) _).trans ((gset_ne (by omega)).trans ((congrFun (congrFun e5 _) _).trans ((gset_ne (by omega)).trans rfl))))))))))⟩)⟩⟩
    · refine g_iload_n (n := 57) X 1 dX0_addClause_56 rfl rfl rfl ?_
      refine g_bipush (n := 59) X dX0_addClause_57 (by decide +kernel) rfl ?_
      refine g_icmp_ne (n := 62) (tgt := 83) X dX0_addClause_59 (by decide) (by omega) (by omega) rfl (fun c16 => ?_) (fun c16 => ?_)
      · refine g_aload_n (n := 84) X 0 dX0_addClause_83 rfl rfl rfl ?_
        refine gg_0_1 (n := 87) (z := o + 2) X (Ao0 r_o) (Aosz hsz r_o) (lay2_A r_o) kw_2_73 dX0_addClause_84 rfl (rfA_1 IM10 hsz r_o) (by omega) ?_
        refine g_iload_n (n := 88) X 1 dX0_addClause_87 rfl rfl rfl ?_
        refine g_iload_n (n := 89) X 2 dX0_addClause_88 rfl rfl rfl ?_
        refine g_iast (n := 90) X (A2o0 r_o) (A2osz hsz r_o) (lay2_A2 r_o) (by omega) (by omega) (by decide) dX0_addClause_89 rfl ?_
        refine G.nm (fun M17 e18 => ?_)
        have IM17 : gI sz M17 := gI.set IM10 (rAA_2 r_o a).1 (by omega) e18
        have CM17 : gC sz M17 := gC.set CM10 (rAA_2 r_o a).2.1 e18
        exact hq _ _ _ dX0_addClause_90 ⟨IM17, CM17, (gFr.s (gFr.s (gFr.s (gFr.s (gFr.s gFr.rf e5 (rAA_3 r_o v1).2.2 rfl) e7 (rAA_4 r_o v1).2.2 rfl) e9 (rAA_5 r_o v1).2.2 rfl) e11 (rA_7 r_o).2.2 rfl) e18 (rAA_2 r_o a).2.2 rfl), ⟨(fun i => ((congrFun (congrFun e18 _) _).trans ((gset_ne (by omega)).trans ((congrFun (congrFun e11 _) _).trans ((gset_ne (by omega)).trans ((congrFun (congrFun e9 _) _).trans ((gset_ne (by omega)).trans ((congrFun (congrFun e7 _) _).trans ((gset_ne (by omega)).trans ((congrFun (congrFun e5 _) _).trans ((gset_ne (by omega)).trans rfl))))))))))), (by have zb7 : M o 7 = v1 := hv1; have zbs : M (o + 2) a = v2 := hv2; have ze7 : M17 o 7 = v1 + 1 := ((congrFun (congrFun e18 _) _).trans ((gset_ne (by omega)).trans ((congrFun (congrFun e11 _) _).trans (gset_eq _ _ _ _)))); have zes : M17 (o + 2) a = b := ((congrFun (congrFun e18 _) _).trans (gset_eq _ _ _ _)); intro hc; refine ⟨by omega, ?_⟩; rw [zes, zbs]; unfold gUp; first | (rw [if_neg (by omega)]) | (rw [if_pos (by omega)]; by_cases g9 : v2 < 0; (rw [if_pos g9]; omega); (rw [if_neg g9]; omega))), (fun k hk => ((congrFun (congrFun e18 _) _).trans ((gset_ne (by omega)).trans ((congrFun (congrFun e11 _) _).trans ((gset_ne (by omega)).trans ((congrFun (congrFun e9 _) _).trans ((gset_ne (by omega)).trans ((congrFun (congrFun e7 _) _).trans ((gset_ne (by omega)).trans ((congrFun (congrFun e5 _) _).trans ((gset_ne (by omega)).trans rfl))))))))))), ((congrFun (congrFun e18 _) _).trans ((gset_ne (by omega)).trans ((congrFun (congrFun e11 _) _).trans ((gset_ne (by omega)).trans ((congrFun (congrFun e9 _) _).trans ((gset_ne (by omega)).trans ((congrFun (congrFun e7 _) _).trans ((gset_ne (by omega)).trans ((congrFun (congrFun e5 _) _).trans ((gset_ne (by omega)).trans rfl)))))))))), (fun q hq hn => ⟨((congrFun (congrFun e18 _) _).trans ((gset_ne (by omega)).trans ((congrFun (congrFun e11 _) _).trans ((gset_ne (by omega)).trans ((congrFun (congrFun e9 _) _).trans ((gset_ne (by omega)).trans ((congrFun (congrFun e7 _) _).trans ((gset_ne (by omega)).trans ((congrFun (congrFun e5 _) _).trans ((gset_ne (by omega)).trans rfl)))))))))), fun k => ((congrFun (congrFun e18 _) _).trans ((gset_ne (by omega)).trans ((congrFun (congrFun e11 _) _).trans ((gset_ne (by omega)).trans ((congrFun (congrFun e9 _) _).trans ((gset_ne (by omega)).trans ((congrFun (congrFun e7 _) _).trans ((gset_ne (by omega)).trans ((congrFun (congrFun e5 _) _).trans ((gset_ne (by omega)).trans rfl))))))))))⟩)⟩⟩
      · refine g_aload_n (n := 63) X 0 dX0_addClause_62 rfl rfl rfl ?_
        refine gg_0_1 (n := 66) (z := o + 2) X (Ao0 r_o) (Aosz hsz r_o) (lay2_A r_o) kw_2_73 dX0_addClause_63 rfl (rfA_1 IM10 hsz r_o) (by omega) ?_
        refine g_iload_n (n := 67) X 1 dX0_addClause_66 rfl rfl rfl ?_
        refine g_iconst (n := 68) X dX0_addClause_67 rfl ?_
        refine g_aload_n (n := 69) X 0 dX0_addClause_68 rfl rfl rfl ?_
        refine gg_0_1 (n := 72) (z := o + 2) X (Ao0 r_o) (Aosz hsz r_o) (lay2_A r_o) kw_2_73 dX0_addClause_69 rfl (rfA_1 IM10 hsz r_o) (by omega) ?_
        refine g_iload_n (n := 73) X 1 dX0_addClause_72 rfl rfl rfl ?_
        refine g_iald2 (n := 74) (v := v2) X (A2o0 r_o) (A2osz hsz r_o) (lay2_A2 r_o) (by omega) (by omega) (by decide) dX0_addClause_73 rfl ((congrFun (congrFun e11 _) _).trans ((gset_ne (by omega)).trans ((congrFun (congrFun e9 _) _).trans ((gset_ne (by omega)).trans ((congrFun (congrFun e7 _) _).trans ((gset_ne (by omega)).trans ((congrFun (congrFun e5 _) _).trans ((gset_ne (by omega)).trans hv2)))))))) ?_
        refine g_mmax (n := 77) X kw_4_67 kw_3_153 kw_1_14 kw_3_154 (by omega) (by omega) (Nat.le_of_ble_eq_true rfl) (Nat.le_of_ble_eq_true rfl) (Nat.le_of_ble_eq_true rfl) (Nat.le_of_ble_eq_true rfl) dX0_addClause_74 rfl (fun x19 hx19 => ?_)
        have rx19 : 0 ≤ x19 ∧ x19 ≤ 100 := by omega
        refine g_iconst (n := 78) X dX0_addClause_77 rfl ?_
        refine g_iadd (n := 79) (z := x19 + 1) X dX0_addClause_78 (by omega) rfl ?_
        refine g_iast (n := 80) X (A2o0 r_o) (A2osz hsz r_o) (lay2_A2 r_o) (by omega) (by omega) (by decide) dX0_addClause_79 rfl ?_
        refine G.nm (fun M20 e21 => ?_)
        have IM20 : gI sz M20 := gI.set IM10 (rAA_2 r_o a).1 (by omega) e21
        have CM20 : gC sz M20 := gC.set CM10 (rAA_2 r_o a).2.1 e21
        refine g_goto (tgt := 90) X dX0_addClause_80 (by decide) ?_
        exact hq _ _ _ dX0_addClause_90 ⟨IM20, CM20, (gFr.s (gFr.s (gFr.s (gFr.s (gFr.s gFr.rf e5 (rAA_3 r_o v1).2.2 rfl) e7 (rAA_4 r_o v1).2.2 rfl) e9 (rAA_5 r_o v1).2.2 rfl) e11 (rA_7 r_o).2.2 rfl) e21 (rAA_2 r_o a).2.2 rfl), ⟨(fun i => ((congrFun (congrFun e21 _) _).trans ((gset_ne (by omega)).trans ((congrFun (congrFun e11 _) _).trans ((gset_ne (by omega)).trans ((congrFun (congrFun e9 _) _).trans ((gset_ne (by omega)).trans ((congrFun (congrFun e7 _) _).trans ((gset_ne (by omega)).trans ((congrFun (congrFun e5 _) _).trans ((gset_ne (by omega)).trans rfl))))))))))), (by have zb7 : M o 7 = v1 := hv1; have zbs : M (o + 2) a = v2 := hv2; have ze7 : M20 o 7 = v1 + 1 := ((congrFun (congrFun e21 _) _).trans ((gset_ne (by omega)).trans ((congrFun (congrFun e11 _) _).trans (gset_eq _ _ _ _)))); have zes : M20 (o + 2) a = x19 + 1 := ((congrFun (congrFun e21 _) _).trans (gset_eq _ _ _ _)); intro hc; refine ⟨by omega, ?_⟩; rw [zes, zbs]; unfold gUp; first | (rw [if_neg (by omega)]) | (rw [if_pos (by omega)]; by_cases g9 : v2 < 0; (rw [if_pos g9]; omega); (rw [if_neg g9]; omega))), (fun k hk => ((congrFun (congrFun e21 _) _).trans ((gset_ne (by omega)).trans ((congrFun (congrFun e11 _) _).trans ((gset_ne (by omega)).trans ((congrFun (congrFun e9 _) _).trans ((gset_ne (by omega)).trans ((congrFun (congrFun e7 _) _).trans ((gset_ne (by omega)).trans ((congrFun (congrFun e5 _) _).trans ((gset_ne (by omega)).trans rfl))))))))))), ((congrFun (congrFun e21 _) _).trans ((gset_ne (by omega)).trans ((congrFun (congrFun e11 _) _).trans ((gset_ne (by omega)).trans ((congrFun (congrFun e9 _) _).trans ((gset_ne (by omega)).trans ((congrFun (congrFun e7 _) _).trans ((gset_ne (by omega)).trans ((congrFun (congrFun e5 _) _).trans ((gset_ne (by omega)).trans rfl)))))))))), (fun q hq hn => ⟨((congrFun (congrFun e21 _) _).trans ((gset_ne (by omega)).trans ((congrFun (congrFun e11 _) _).trans ((gset_ne (by omega)).trans ((congrFun (congrFun e9 _) _).trans ((gset_ne (by omega)).trans ((congrFun (congrFun e7 _) _).trans ((gset_ne (by omega)).trans ((congrFun (congrFun e5 _) _).trans ((gset_ne (by omega)).trans rfl)))))))))), fun k => ((congrFun (congrFun e21 _) _).trans ((gset_ne (by omega)).trans ((congrFun (congrFun e11 _) _).trans ((gset_ne (by omega)).trans ((congrFun (congrFun e9 _) _).trans ((gset_ne (by omega)).trans ((congrFun (congrFun e7 _) _).trans ((gset_ne (by omega)).trans ((congrFun (congrFun e5 _) _).trans ((gset_ne (by omega)).trans rfl))))))))))⟩)⟩⟩
  · exact hq _ _ _ dX0_addClause_9 ⟨I, C, gFr.rf, ⟨(fun i => rfl), (by have zb7 : M o 7 = v1 := hv1; have zbs : M (o + 2) a = v2 := hv2; intro hc; exfalso; omega), (fun k hk => rfl), rfl, (fun q hq hn => ⟨rfl, fun k => rfl⟩)⟩⟩
abbrev R_e_X7_readClause : Room := { frames := 7, cells := 0, slots := 0, locals := 150 }
set_option maxRecDepth 100000 in
set_option maxHeartbeats 4000000 in
theorem e_X7_readClause {l : Launch} {n0 : Nat} {D : va_G} {cA : Nat → ClassId} {M : gM} (o : Int) (r_o : 87 ≤ o ∧ o ≤ 147 ∧ (o - 87) % 6 = 0) {sz : Nat} (hsz : 206 ≤ sz) (I : gI sz M) (C : gC sz M) (ht : M 159 0 = o + 1 + 1) (T : Int → Int) (hT : gTc M o = T) (hb9 : ∀ k : Int, (k = 8 ∨ k = 9) → M (o + 2) k ≤ 100)  : Met l yX7_readClause (gWsOf yX7_readClause cX7_readClause 5 (Option.some Jvm.ClassFile.FieldType.boolean)) R_e_X7_readClause (gPc n0 D cA [gA n0 159, gA n0 o] M sz) (gQi n0 D cA sz (fun z M1 => (0 ≤ z ∧ z ≤ 1) ∧ gI sz M1 ∧ gC sz M1 ∧ gFr 603980032 M M1 ∧ (((z = 1 ∧ 0 ≤ (gCl T (M 159 2)).2.2.2 ∧ (gCl T (M 159 2)).2.2.2 = M1 159 2) ∨ (z = 0 ∧ (gCl T (M 159 2)).2.2.2 = -1 - M1 159 2)) ∧ (∀ i : Int, M1 (o + 1) i = M (o + 1) i) ∧ (z = 1 → M o 7 < 8 → M1 o 7 = M o 7 + 1 ∧ (∀ k : Int, 0 ≤ k → k ≤ 9 → M1 (o + 2) k = gUq (M (o + 2) k) k (gCl T (M 159 2)).1 (gCl T (M 159 2)).2.1)) ∧ M1 o 6 = M o 6 ∧ (∀ q : Int, 87 ≤ q ∧ q ≤ 147 ∧ (q - 87) % 6 = 0 → ¬ q = o → M1 q 6 = M q 6 ∧ (∀ k : Int, M1 (q + 2) k = M (q + 2) k))))) 0 0 (fun q => n0 ≤ q) := by
  refine gMetZ [gA n0 159, gA n0 o] (by decide) (Nat.le_of_ble_eq_true rfl) ⟨rfl, rfl⟩ ?_
  intro p e s m args below meth cd Q X hq
  have X : gCx p s m args meth cd n0 D cA "ParishUnion$Reader" cX7_readClause 5 := X
  show G p l e R_e_X7_readClause s m args below meth cd n0 D cA 5 Q 0 0 M sz 0 [(0, gA n0 159), (1, gA n0 o)] []
  obtain ⟨v1, hv1, rv1⟩ := gRd I (by decide) (gsz hsz (by decide)) rc_159_2.1
  obtain ⟨v2, hv2, rv2⟩ := gRd I (by decide) (gsz hsz (by decide)) rc_159_1.1
  refine g_aload_n (n := 1) X 0 dX7_readClause_0 rfl rfl rfl ?_
  refine g_callVi (n := 4) (As := []) (rest := []) (cs1 := 0) (ss1 := 0) X (e_X7_readWord o r_o hsz I C ht T hT) okX7_readWord kw_3_218 ⟨kw_3_220, kw_0_8⟩ ⟨rfl, rfl⟩ ⟨Nat.le_of_ble_eq_true rfl, Nat.le_of_ble_eq_true rfl⟩ rfl (by decide) (gsz hsz (by decide)) lay_159 rfl rfl (Nat.le_of_ble_eq_true rfl) ⟨Nat.le_of_ble_eq_true rfl, Nat.le_of_ble_eq_true rfl⟩ rfl rfl dX7_readClause_1 rfl (fun v3 M4 P5 => ?_)
  obtain ⟨rv3, IM4, CM4, FM4, xM4⟩ := P5
  rw [show M 159 2 = v1 from hv1] at xM4
  obtain ⟨v6, hv6, rv6⟩ := gRd IM4 (by decide) (gsz hsz (by decide)) rc_159_2.1
  rw [hv6] at xM4
  refine g_istore_n (n := 5) (L' := [(2, gJ v3), (0, gA n0 159), (1, gA n0 o)]) X dX7_readClause_4 rfl (by decide) rfl rfl ?_
  refine g_iload_n (n := 6) X 0 dX7_readClause_5 rfl rfl rfl ?_
  refine g_iconst (n := 7) X dX7_readClause_6 rfl ?_
  refine g_icmp_eq (n := 10) (tgt := 19) X dX7_readClause_7 (by decide) (by omega) (by omega) rfl (fun c7 => ?_) (fun c7 => ?_)
  · refine g_iconst (n := 20) X dX7_readClause_19 rfl ?_
    exact hq _ _ _ _ dX7_readClause_20 (by omega) ⟨by omega, IM4, CM4, (gFr.c gFr.rf FM4 rfl), ⟨(by have zb2 : M 159 2 = v1 := hv1; have ze2 : M4 159 2 = v6 := hv6; (rcases xM4 with ⟨u1, u2⟩ | ⟨u1, u2, u3⟩; (exact Or.inr ⟨by omega, by rw [zb2, gCl_no u2]; omega⟩); (exfalso; omega))), (fun i => ((gFr.at FM4 (rAA_1 r_o i).2.2 rfl).trans rfl)), (fun g => by exfalso; omega), ((gFr.at FM4 (rA_6 r_o).2.2 rfl).trans rfl), (fun q hq hn => ⟨((gFr.at FM4 (rA_6 hq).2.2 rfl).trans rfl), fun k => ((gFr.at FM4 (rAA_2 hq k).2.2 rfl).trans rfl)⟩)⟩⟩
  · refine g_aload_n (n := 11) X 1 dX7_readClause_10 rfl rfl rfl ?_
    refine g_bipush (n := 13) X dX7_readClause_11 (by decide +kernel) rfl ?_
    refine g_callVi (n := 16) (As := [gJ 32]) (rest := []) (cs1 := 0) (ss1 := 0) X (e_X7_skip 32 (by omega) o r_o hsz IM4 CM4 ((gFr.at FM4 rc_159_0.2.2 rfl).trans ht) T (gTc.eq hT (gFr.at ((gFr.c gFr.rf FM4 rfl) : gFr 536870912 M M4) rc_159_1.2.2 rfl) (fun b => gFr.at ((gFr.c gFr.rf FM4 rfl) : gFr 536870912 M M4) (rAA_1 r_o b).2.2 rfl))) okX7_skip kw_4_44 ⟨kw_4_46, kw_0_9⟩ ⟨rfl, rfl⟩ ⟨Nat.le_of_ble_eq_true rfl, Nat.le_of_ble_eq_true rfl⟩ rfl (by decide) (gsz hsz (by decide)) lay_159 rfl rfl (Nat.le_of_ble_eq_true rfl) ⟨Nat.le_of_ble_eq_true rfl, Nat.le_of_ble_eq_true rfl⟩ rfl rfl dX7_readClause_13 rfl (fun v8 M9 P10 => ?_)
    obtain ⟨rv8, IM9, CM9, FM9, xM9⟩ := P10
    rw [show M4 159 2 = v6 from hv6] at xM9
    obtain ⟨v11, hv11, rv11⟩ := gRd IM9 (by decide) (gsz hsz (by decide)) rc_159_2.1
    rw [hv11] at xM9
    refine g_if_ne (n := 19) (tgt := 21) X dX7_readClause_16 (by decide) (by omega) rfl (fun c12 => ?_) (fun c12 => ?_)
    · refine g_aload_n (n := 22) X 1 dX7_readClause_21 rfl rfl rfl ?_
      refine g_iload_n (n := 23) X 0 dX7_readClause_22 rfl rfl rfl ?_
      refine g_callVi (n := 26) (As := [gJ v3]) (rest := []) (cs1 := 0) (ss1 := 0) X (e_X7_readPart v3 (by omega) o r_o hsz IM9 CM9 ((gFr.at FM9 rc_159_0.2.2 rfl).trans ((gFr.at FM4 rc_159_0.2.2 rfl).trans ht)) T (gTc.eq hT (gFr.at ((gFr.c (gFr.c gFr.rf FM4 rfl) FM9 rfl) : gFr 536870912 M M9) rc_159_1.2.2 rfl) (fun b => gFr.at ((gFr.c (gFr.c gFr.rf FM4 rfl) FM9 rfl) : gFr 536870912 M M9) (rAA_1 r_o b).2.2 rfl))) okX7_readPart kw_4_48 ⟨kw_4_50, kw_0_10⟩ ⟨rfl, rfl⟩ ⟨Nat.le_of_ble_eq_true rfl, Nat.le_of_ble_eq_true rfl⟩ rfl (by decide) (gsz hsz (by decide)) lay_159 rfl rfl (Nat.le_of_ble_eq_true rfl) ⟨Nat.le_of_ble_eq_true rfl, Nat.le_of_ble_eq_true rfl⟩ rfl rfl dX7_readClause_23 rfl (fun v13 M14 P15 => ?_)
      obtain ⟨rv13, IM14, CM14, FM14, xM14⟩ := P15
      rw [show M9 159 2 = v11 from hv11] at xM14
      obtain ⟨v16, hv16, rv16⟩ := gRd IM14 (by decide) (gsz hsz (by decide)) rc_159_2.1
      rw [hv16] at xM14
      refine g_istore_n (n := 27) (L' := [(3, gJ v13), (2, gJ v3), (0, gA n0 159), (1, gA n0 o)]) X dX7_readClause_26 rfl (by decide) rfl rfl ?_
      refine g_iload_n (n := 28) X 0 dX7_readClause_27 rfl rfl rfl ?_
      refine g_iconst (n := 29) X dX7_readClause_28 rfl ?_
      refine g_icmp_ne (n := 32) (tgt := 34) X dX7_readClause_29 (by decide) (by omega) (by omega) rfl (fun c17 => ?_) (fun c17 => ?_)
      · refine g_iload_n (n := 35) X 1 dX7_readClause_34 rfl rfl rfl ?_
        refine g_bipush (n := 37) X dX7_readClause_35 (by decide +kernel) rfl ?_
        refine g_icmp_eq (n := 40) (tgt := 46) X dX7_readClause_37 (by decide) (by omega) (by omega) rfl (fun c18 => ?_) (fun c18 => ?_)
        · refine g_iconst (n := 47) X dX7_readClause_46 rfl ?_
          refine g_goto (tgt := 51) X dX7_readClause_47 (by decide) ?_
          refine g_istore (n := 53) (L' := [(4, gJ 1), (3, gJ v13), (2, gJ v3), (0, gA n0 159), (1, gA n0 o)]) X dX7_readClause_51 (by decide) rfl rfl ?_
          refine g_iload (n := 55) X 0 dX7_readClause_53 rfl rfl ?_
          refine g_if_eq (n := 58) (tgt := 69) X dX7_readClause_55 (by decide) (by omega) rfl (fun c19 => by exfalso; omega) (fun c19 => ?_)
          refine g_aload_n (n := 59) X 3 dX7_readClause_58 rfl rfl rfl ?_
          refine g_bipush (n := 61) X dX7_readClause_59 (by decide +kernel) rfl ?_
          refine g_callVi (n := 64) (As := [gJ 32]) (rest := []) (cs1 := 0) (ss1 := 0) X (e_X7_skip 32 (by omega) o r_o hsz IM14 CM14 ((gFr.at FM14 rc_159_0.2.2 rfl).trans ((gFr.at FM9 rc_159_0.2.2 rfl).trans ((gFr.at FM4 rc_159_0.2.2 rfl).trans ht))) T (gTc.eq hT (gFr.at ((gFr.c (gFr.c (gFr.c gFr.rf FM4 rfl) FM9 rfl) FM14 rfl) : gFr 536870912 M M14) rc_159_1.2.2 rfl) (fun b => gFr.at ((gFr.c (gFr.c (gFr.c gFr.rf FM4 rfl) FM9 rfl) FM14 rfl) : gFr 536870912 M M14) (rAA_1 r_o b).2.2 rfl))) okX7_skip kw_4_44 ⟨kw_4_46, kw_0_9⟩ ⟨rfl, rfl⟩ ⟨Nat.le_of_ble_eq_true rfl, Nat.le_of_ble_eq_true rfl⟩ rfl (by decide) (gsz hsz (by decide)) lay_159 rfl rfl (Nat.le_of_ble_eq_true rfl) ⟨Nat.le_of_ble_eq_true rfl, Nat.le_of_ble_eq_true rfl⟩ rfl rfl dX7_readClause_61 rfl (fun v20 M21 P22 => ?_)
          obtain ⟨rv20, IM21, CM21, FM21, xM21⟩ := P22
          rw [show M14 159 2 = v16 from hv16] at xM21
          obtain ⟨v23, hv23, rv23⟩ := gRd IM21 (by decide) (gsz hsz (by decide)) rc_159_2.1
          rw [hv23] at xM21
          refine g_if_ne (n := 67) (tgt := 69) X dX7_readClause_64 (by decide) (by omega) rfl (fun c24 => ?_) (fun c24 => ?_)
          · refine g_aload_n (n := 70) X 4 dX7_readClause_69 rfl rfl rfl ?_
            refine g_iload_n (n := 71) X 2 dX7_readClause_70 rfl rfl rfl ?_
            refine g_iload_n (n := 72) X 1 dX7_readClause_71 rfl rfl rfl ?_
            refine g_aload_n (n := 73) X 3 dX7_readClause_72 rfl rfl rfl ?_
            refine gg_7_2 (n := 76) (z := v23) X (by decide) (gsz hsz (by decide)) lay_159 kw_2_213 dX7_readClause_73 rfl hv23 ?_
            refine g_callVv (n := 79) (As := [gJ v3, gJ v13, gJ v23]) (rest := []) (cs1 := 0) (ss1 := 0) X (e_X0_addClause o r_o v3 (by omega) v13 (by omega) v23 (by omega) hsz IM21 CM21 (by omega) (fun hc => by rw [show M21 (o + 2) v3 = M (o + 2) v3 from ((gFr.at FM21 (rAA_2 r_o v3).2.2 rfl).trans ((gFr.at FM14 (rAA_2 r_o v3).2.2 rfl).trans ((gFr.at FM9 (rAA_2 r_o v3).2.2 rfl).trans ((gFr.at FM4 (rAA_2 r_o v3).2.2 rfl).trans rfl))))]; exact hb9 _ hc)) okX0_addClause kw_4_63 ⟨kw_4_64, kw_4_65⟩ ⟨rfl, rfl⟩ ⟨Nat.le_of_ble_eq_true rfl, Nat.le_of_ble_eq_true rfl⟩ rfl (Ao0 r_o) (Aosz hsz r_o) (lay2_A r_o) rfl rfl (Nat.le_of_ble_eq_true rfl) ⟨Nat.le_of_ble_eq_true rfl, Nat.le_of_ble_eq_true rfl⟩ rfl rfl dX7_readClause_76 rfl (fun M26 P27 => ?_)
            obtain ⟨IM26, CM26, FM26, xM26⟩ := P27
            refine g_iload (n := 81) X 0 dX7_readClause_79 rfl rfl ?_
            refine g_if_eq (n := 84) (tgt := 91) X dX7_readClause_81 (by decide) (by omega) rfl (fun c28 => by exfalso; omega) (fun c28 => ?_)
            refine g_aload_n (n := 85) X 3 dX7_readClause_84 rfl rfl rfl ?_
            refine g_callVi (n := 88) (As := []) (rest := []) (cs1 := 0) (ss1 := 0) X (e_X7_readCondition o r_o hsz IM26 CM26 ((gFr.at FM26 rc_159_0.2.2 rfl).trans ((gFr.at FM21 rc_159_0.2.2 rfl).trans ((gFr.at FM14 rc_159_0.2.2 rfl).trans ((gFr.at FM9 rc_159_0.2.2 rfl).trans ((gFr.at FM4 rc_159_0.2.2 rfl).trans ht))))) T (gTc.eq (gTc.eq hT (gFr.at ((gFr.c (gFr.c (gFr.c (gFr.c gFr.rf FM4 rfl) FM9 rfl) FM14 rfl) FM21 rfl) : gFr 536870912 M M21) rc_159_1.2.2 rfl) (fun b => gFr.at ((gFr.c (gFr.c (gFr.c (gFr.c gFr.rf FM4 rfl) FM9 rfl) FM14 rfl) FM21 rfl) : gFr 536870912 M M21) (rAA_1 r_o b).2.2 rfl)) (gFr.at FM26 rc_159_1.2.2 rfl) xM26.1)) okX7_readCondition kw_4_68 ⟨kw_4_70, kw_0_13⟩ ⟨rfl, rfl⟩ ⟨Nat.le_of_ble_eq_true rfl, Nat.le_of_ble_eq_true rfl⟩ rfl (by decide) (gsz hsz (by decide)) lay_159 rfl rfl (Nat.le_of_ble_eq_true rfl) ⟨Nat.le_of_ble_eq_true rfl, Nat.le_of_ble_eq_true rfl⟩ rfl rfl dX7_readClause_85 rfl (fun v29 M30 P31 => ?_)
            obtain ⟨rv29, IM30, CM30, FM30, xM30⟩ := P31
            rw [show M26 159 2 = v23 from ((gFr.at FM26 rc_159_2.2.2 rfl).trans hv23)] at xM30
            obtain ⟨v32, hv32, rv32⟩ := gRd IM30 (by decide) (gsz hsz (by decide)) rc_159_2.1
            rw [hv32] at xM30
            refine g_if_eq (n := 91) (tgt := 95) X dX7_readClause_88 (by decide) (by omega) rfl (fun c33 => ?_) (fun c33 => ?_)
            · refine g_iconst (n := 96) X dX7_readClause_95 rfl ?_
              exact hq _ _ _ _ dX7_readClause_96 (by omega) ⟨by omega, IM30, CM30, (gFr.c (gFr.c (gFr.c (gFr.c (gFr.c (gFr.c gFr.rf FM4 rfl) FM9 rfl) FM14 rfl) FM21 rfl) FM26 rfl) FM30 rfl), ⟨(by have zb2 : M 159 2 = v1 := hv1; have ze2 : M30 159 2 = v32 := hv32; (rcases xM4 with ⟨u1, u2⟩ | ⟨u1, u2, u3⟩; (exfalso; omega); have v1 : T (v1 + (gWn v3 - 1)) = 32 := (by rw [show v1 + (gWn v3 - 1) = v6 by omega]; omega); have v2 := gCl_of (gWrd_w (q := v11) u1 u2 v1 (by omega)) u1.1; rcases xM14.1 with ⟨a1, a2⟩ | ⟨a1, a2⟩; (exfalso; omega); have v3 := gClW_2 a2 a1 (by omega) (by omega); rw [show v23 = v16 + 1 by omega] at xM30; rcases xM30 with ⟨b1, b2, b3⟩ | ⟨b1, b2⟩; (first | (exfalso; omega) | (exact Or.inl ⟨by omega, by rw [zb2, v2, v3]; show 0 ≤ gR T (v16 + 1) [] true; omega, by rw [zb2, v2, v3]; show gR T (v16 + 1) [] true = M30 159 2; omega⟩)); (first | (exfalso; omega) | (exact Or.inr ⟨by omega, by rw [zb2, v2, v3]; show gR T (v16 + 1) [] true = -1 - M30 159 2; omega⟩)))), (fun i => ((gFr.at FM30 (rAA_1 r_o i).2.2 rfl).trans ((xM26.1 i).trans ((gFr.at FM21 (rAA_1 r_o i).2.2 rfl).trans ((gFr.at FM14 (rAA_1 r_o i).2.2 rfl).trans ((gFr.at FM9 (rAA_1 r_o i).2.2 rfl).trans ((gFr.at FM4 (rAA_1 r_o i).2.2 rfl).trans rfl))))))), (fun g => by exfalso; omega), ((gFr.at FM30 (rA_6 r_o).2.2 rfl).trans (xM26.2.2.2.1.trans ((gFr.at FM21 (rA_6 r_o).2.2 rfl).trans ((gFr.at FM14 (rA_6 r_o).2.2 rfl).trans ((gFr.at FM9 (rA_6 r_o).2.2 rfl).trans ((gFr.at FM4 (rA_6 r_o).2.2 rfl).trans rfl)))))), (fun q hq hn => ⟨((gFr.at FM30 (rA_6 hq).2.2 rfl).trans ((xM26.2.2.2.2 q hq hn).1.trans ((gFr.at FM21 (rA_6 hq).2.2 rfl).trans ((gFr.at FM14 (rA_6 hq).2.2 rfl).trans ((gFr.at FM9 (rA_6 hq).2.2 rfl).trans ((gFr.at FM4 (rA_6 hq).2.2 rfl).trans rfl)))))), fun k => ((gFr.at FM30 (rAA_2 hq k).2.2 rfl).trans (((xM26.2.2.2.2 q hq hn).2 k).trans ((gFr.at FM21 (rAA_2 hq k).2.2 rfl).trans ((gFr.at FM14 (rAA_2 hq k).2.2 rfl).trans ((gFr.at FM9 (rAA_2 hq k).2.2 rfl).trans ((gFr.at FM4 (rAA_2 hq k).2.2 rfl).trans rfl))))))⟩)⟩⟩
            · refine g_iconst (n := 92) X dX7_readClause_91 rfl ?_
              refine g_goto (tgt := 96) X dX7_readClause_92 (by decide) ?_
              exact hq _ _ _ _ dX7_readClause_96 (by omega) ⟨by omega, IM30, CM30, (gFr.c (gFr.c (gFr.c (gFr.c (gFr.c (gFr.c gFr.rf FM4 rfl) FM9 rfl) FM14 rfl) FM21 rfl) FM26 rfl) FM30 rfl), ⟨(by have zb2 : M 159 2 = v1 := hv1; have ze2 : M30 159 2 = v32 := hv32; (rcases xM4 with ⟨u1, u2⟩ | ⟨u1, u2, u3⟩; (exfalso; omega); have v1 : T (v1 + (gWn v3 - 1)) = 32 := (by rw [show v1 + (gWn v3 - 1) = v6 by omega]; omega); have v2 := gCl_of (gWrd_w (q := v11) u1 u2 v1 (by omega)) u1.1; rcases xM14.1 with ⟨a1, a2⟩ | ⟨a1, a2⟩; (exfalso; omega); have v3 := gClW_2 a2 a1 (by omega) (by omega); rw [show v23 = v16 + 1 by omega] at xM30; rcases xM30 with ⟨b1, b2, b3⟩ | ⟨b1, b2⟩; (first | (exfalso; omega) | (exact Or.inl ⟨by omega, by rw [zb2, v2, v3]; show 0 ≤ gR T (v16 + 1) [] true; omega, by rw [zb2, v2, v3]; show gR T (v16 + 1) [] true = M30 159 2; omega⟩)); (first | (exfalso; omega) | (exact Or.inr ⟨by omega, by rw [zb2, v2, v3]; show gR T (v16 + 1) [] true = -1 - M30 159 2; omega⟩)))), (fun i => ((gFr.at FM30 (rAA_1 r_o i).2.2 rfl).trans ((xM26.1 i).trans ((gFr.at FM21 (rAA_1 r_o i).2.2 rfl).trans ((gFr.at FM14 (rAA_1 r_o i).2.2 rfl).trans ((gFr.at FM9 (rAA_1 r_o i).2.2 rfl).trans ((gFr.at FM4 (rAA_1 r_o i).2.2 rfl).trans rfl))))))), (by have zb2 : M 159 2 = v1 := hv1; have ze2 : M30 159 2 = v32 := hv32; intro hz7 hc; rcases xM4 with ⟨u1, u2⟩ | ⟨u1, u2, u3⟩; (exfalso; omega); have vw1 : T (v1 + (gWn v3 - 1)) = 32 := (by rw [show v1 + (gWn v3 - 1) = v6 by omega]; omega); have vw2 := gCl_of (gWrd_w (q := v11) u1 u2 vw1 (by omega)) u1.1; rcases xM14.1 with ⟨a1, a2⟩ | ⟨a1, a2⟩; (exfalso; omega); have vw3 := gClW_2 a2 a1 (by omega) (by omega); have w7a : M30 o 7 = M26 o 7 := ((gFr.at FM30 (rA_7 r_o).2.2 rfl).trans rfl); have w7b : M21 o 7 = M o 7 := ((gFr.at FM21 (rA_7 r_o).2.2 rfl).trans ((gFr.at FM14 (rA_7 r_o).2.2 rfl).trans ((gFr.at FM9 (rA_7 r_o).2.2 rfl).trans ((gFr.at FM4 (rA_7 r_o).2.2 rfl).trans rfl)))); have ws : ∀ k : Int, M30 (o + 2) k = M26 (o + 2) k := fun k => ((gFr.at FM30 (rAA_2 r_o k).2.2 rfl).trans rfl); have wt : ∀ k : Int, M21 (o + 2) k = M (o + 2) k := fun k => ((gFr.at FM21 (rAA_2 r_o k).2.2 rfl).trans ((gFr.at FM14 (rAA_2 r_o k).2.2 rfl).trans ((gFr.at FM9 (rAA_2 r_o k).2.2 rfl).trans ((gFr.at FM4 (rAA_2 r_o k).2.2 rfl).trans rfl)))); have y := xM26.2.1 (by omega); refine ⟨by omega, fun k k0 k1 => ?_⟩; rw [zb2, vw2, vw3]; show M30 (o + 2) k = gUq (M (o + 2) k) k v3 v13; unfold gUq; by_cases c9 : k = v3; (rw [if_pos c9, c9, ws, y.2, wt]); (rw [if_neg c9, ws, xM26.2.2.1 k c9, wt])), ((gFr.at FM30 (rA_6 r_o).2.2 rfl).trans (xM26.2.2.2.1.trans ((gFr.at FM21 (rA_6 r_o).2.2 rfl).trans ((gFr.at FM14 (rA_6 r_o).2.2 rfl).trans ((gFr.at FM9 (rA_6 r_o).2.2 rfl).trans ((gFr.at FM4 (rA_6 r_o).2.2 rfl).trans rfl)))))), (fun q hq hn => ⟨((gFr.at FM30 (rA_6 hq).2.2 rfl).trans ((xM26.2.2.2.2 q hq hn).1.trans ((gFr.at FM21 (rA_6 hq).2.2 rfl).trans ((gFr.at FM14 (rA_6 hq).2.2 rfl).trans ((gFr.at FM9 (rA_6 hq).2.2 rfl).trans ((gFr.at FM4 (rA_6 hq).2.2 rfl).trans rfl)))))), fun k => ((gFr.at FM30 (rAA_2 hq k).2.2 rfl).trans (((xM26.2.2.2.2 q hq hn).2 k).trans ((gFr.at FM21 (rAA_2 hq k).2.2 rfl).trans ((gFr.at FM14 (rAA_2 hq k).2.2 rfl).trans ((gFr.at FM9 (rAA_2 hq k).2.2 rfl).trans ((gFr.at FM4 (rAA_2 hq k).2.2 rfl).trans rfl))))))⟩)⟩⟩
          · refine g_iconst (n := 68) X dX7_readClause_67 rfl ?_
            exact hq _ _ _ _ dX7_readClause_68 (by omega) ⟨by omega, IM21, CM21, (gFr.c (gFr.c (gFr.c (gFr.c gFr.rf FM4 rfl) FM9 rfl) FM14 rfl) FM21 rfl), ⟨(by have zb2 : M 159 2 = v1 := hv1; have ze2 : M21 159 2 = v23 := hv23; (rcases xM4 with ⟨u1, u2⟩ | ⟨u1, u2, u3⟩; (exfalso; omega); have v1 : T (v1 + (gWn v3 - 1)) = 32 := (by rw [show v1 + (gWn v3 - 1) = v6 by omega]; omega); have v2 := gCl_of (gWrd_w (q := v11) u1 u2 v1 (by omega)) u1.1; rcases xM14.1 with ⟨a1, a2⟩ | ⟨a1, a2⟩; (exfalso; omega); have v3 := gClW_3 a2 a1 (by omega) (by omega); exact Or.inr ⟨by omega, by rw [zb2, v2, v3]; show -1 - v16 = -1 - M21 159 2; omega⟩)), (fun i => ((gFr.at FM21 (rAA_1 r_o i).2.2 rfl).trans ((gFr.at FM14 (rAA_1 r_o i).2.2 rfl).trans ((gFr.at FM9 (rAA_1 r_o i).2.2 rfl).trans ((gFr.at FM4 (rAA_1 r_o i).2.2 rfl).trans rfl))))), (fun g => by exfalso; omega), ((gFr.at FM21 (rA_6 r_o).2.2 rfl).trans ((gFr.at FM14 (rA_6 r_o).2.2 rfl).trans ((gFr.at FM9 (rA_6 r_o).2.2 rfl).trans ((gFr.at FM4 (rA_6 r_o).2.2 rfl).trans rfl)))), (fun q hq hn => ⟨((gFr.at FM21 (rA_6 hq).2.2 rfl).trans ((gFr.at FM14 (rA_6 hq).2.2 rfl).trans ((gFr.at FM9 (rA_6 hq).2.2 rfl).trans ((gFr.at FM4 (rA_6 hq).2.2 rfl).trans rfl)))), fun k => ((gFr.at FM21 (rAA_2 hq k).2.2 rfl).trans ((gFr.at FM14 (rAA_2 hq k).2.2 rfl).trans ((gFr.at FM9 (rAA_2 hq k).2.2 rfl).trans ((gFr.at FM4 (rAA_2 hq k).2.2 rfl).trans rfl))))⟩)⟩⟩
        · refine g_iload_n (n := 41) X 1 dX7_readClause_40 rfl rfl rfl ?_
          refine g_bipush (n := 43) X dX7_readClause_41 (by decide +kernel) rfl ?_
          refine g_icmp_ne (n := 46) (tgt := 50) X dX7_readClause_43 (by decide) (by omega) (by omega) rfl (fun c34 => ?_) (fun c34 => ?_)
          · refine g_iconst (n := 51) X dX7_readClause_50 rfl ?_
            refine g_istore (n := 53) (L' := [(4, gJ 0), (3, gJ v13), (2, gJ v3), (0, gA n0 159), (1, gA n0 o)]) X dX7_readClause_51 (by decide) rfl rfl ?_
            refine g_iload (n := 55) X 0 dX7_readClause_53 rfl rfl ?_
            refine g_if_eq (n := 58) (tgt := 69) X dX7_readClause_55 (by decide) (by omega) rfl (fun c35 => ?_) (fun c35 => by exfalso; omega)
            refine g_aload_n (n := 70) X 4 dX7_readClause_69 rfl rfl rfl ?_
            refine g_iload_n (n := 71) X 2 dX7_readClause_70 rfl rfl rfl ?_
            refine g_iload_n (n := 72) X 1 dX7_readClause_71 rfl rfl rfl ?_
            refine g_aload_n (n := 73) X 3 dX7_readClause_72 rfl rfl rfl ?_
            refine gg_7_2 (n := 76) (z := v16) X (by decide) (gsz hsz (by decide)) lay_159 kw_2_213 dX7_readClause_73 rfl hv16 ?_
            refine g_callVv (n := 79) (As := [gJ v3, gJ v13, gJ v16]) (rest := []) (cs1 := 0) (ss1 := 0) X (e_X0_addClause o r_o v3 (by omega) v13 (by omega) v16 (by omega) hsz IM14 CM14 (by omega) (fun hc => by rw [show M14 (o + 2) v3 = M (o + 2) v3 from ((gFr.at FM14 (rAA_2 r_o v3).2.2 rfl).trans ((gFr.at FM9 (rAA_2 r_o v3).2.2 rfl).trans ((gFr.at FM4 (rAA_2 r_o v3).2.2 rfl).trans rfl)))]; exact hb9 _ hc)) okX0_addClause kw_4_63 ⟨kw_4_64, kw_4_65⟩ ⟨rfl, rfl⟩ ⟨Nat.le_of_ble_eq_true rfl, Nat.le_of_ble_eq_true rfl⟩ rfl (Ao0 r_o) (Aosz hsz r_o) (lay2_A r_o) rfl rfl (Nat.le_of_ble_eq_true rfl) ⟨Nat.le_of_ble_eq_true rfl, Nat.le_of_ble_eq_true rfl⟩ rfl rfl dX7_readClause_76 rfl (fun M37 P38 => ?_)
            obtain ⟨IM37, CM37, FM37, xM37⟩ := P38
            refine g_iload (n := 81) X 0 dX7_readClause_79 rfl rfl ?_
            refine g_if_eq (n := 84) (tgt := 91) X dX7_readClause_81 (by decide) (by omega) rfl (fun c39 => ?_) (fun c39 => by exfalso; omega)
            refine g_iconst (n := 92) X dX7_readClause_91 rfl ?_
            refine g_goto (tgt := 96) X dX7_readClause_92 (by decide) ?_
            exact hq _ _ _ _ dX7_readClause_96 (by omega) ⟨by omega, IM37, CM37, (gFr.c (gFr.c (gFr.c (gFr.c gFr.rf FM4 rfl) FM9 rfl) FM14 rfl) FM37 rfl), ⟨(by have zb2 : M 159 2 = v1 := hv1; have ze2 : M37 159 2 = v16 := ((gFr.at FM37 rc_159_2.2.2 rfl).trans hv16); (rcases xM4 with ⟨u1, u2⟩ | ⟨u1, u2, u3⟩; (exfalso; omega); have v1 : T (v1 + (gWn v3 - 1)) = 32 := (by rw [show v1 + (gWn v3 - 1) = v6 by omega]; omega); have v2 := gCl_of (gWrd_w (q := v11) u1 u2 v1 (by omega)) u1.1; rcases xM14.1 with ⟨a1, a2⟩ | ⟨a1, a2⟩; (exfalso; omega); have v3 := gClW_1 a2 a1 (by omega); exact Or.inl ⟨by omega, by rw [zb2, v2, v3]; show 0 ≤ v16; omega, by rw [zb2, v2, v3]; show v16 = M37 159 2; omega⟩)), (fun i => ((xM37.1 i).trans ((gFr.at FM14 (rAA_1 r_o i).2.2 rfl).trans ((gFr.at FM9 (rAA_1 r_o i).2.2 rfl).trans ((gFr.at FM4 (rAA_1 r_o i).2.2 rfl).trans rfl))))), (by have zb2 : M 159 2 = v1 := hv1; have ze2 : M37 159 2 = v16 := ((gFr.at FM37 rc_159_2.2.2 rfl).trans hv16); intro hz7 hc; rcases xM4 with ⟨u1, u2⟩ | ⟨u1, u2, u3⟩; (exfalso; omega); have vw1 : T (v1 + (gWn v3 - 1)) = 32 := (by rw [show v1 + (gWn v3 - 1) = v6 by omega]; omega); have vw2 := gCl_of (gWrd_w (q := v11) u1 u2 vw1 (by omega)) u1.1; rcases xM14.1 with ⟨a1, a2⟩ | ⟨a1, a2⟩; (exfalso; omega); have vw3 := gClW_1 a2 a1 (by omega); have w7a : M37 o 7 = M37 o 7 := rfl; have w7b : M14 o 7 = M o 7 := ((gFr.at FM14 (rA_7 r_o).2.2 rfl).trans ((gFr.at FM9 (rA_7 r_o).2.2 rfl).trans ((gFr.at FM4 (rA_7 r_o).2.2 rfl).trans rfl))); have ws : ∀ k : Int, M37 (o + 2) k = M37 (o + 2) k := fun k => rfl; have wt : ∀ k : Int, M14 (o + 2) k = M (o + 2) k := fun k => ((gFr.at FM14 (rAA_2 r_o k).2.2 rfl).trans ((gFr.at FM9 (rAA_2 r_o k).2.2 rfl).trans ((gFr.at FM4 (rAA_2 r_o k).2.2 rfl).trans rfl))); have y := xM37.2.1 (by omega); refine ⟨by omega, fun k k0 k1 => ?_⟩; rw [zb2, vw2, vw3]; show M37 (o + 2) k = gUq (M (o + 2) k) k v3 v13; unfold gUq; by_cases c9 : k = v3; (rw [if_pos c9, c9, ws, y.2, wt]); (rw [if_neg c9, ws, xM37.2.2.1 k c9, wt])), (xM37.2.2.2.1.trans ((gFr.at FM14 (rA_6 r_o).2.2 rfl).trans ((gFr.at FM9 (rA_6 r_o).2.2 rfl).trans ((gFr.at FM4 (rA_6 r_o).2.2 rfl).trans rfl)))), (fun q hq hn => ⟨((xM37.2.2.2.2 q hq hn).1.trans ((gFr.at FM14 (rA_6 hq).2.2 rfl).trans ((gFr.at FM9 (rA_6 hq).2.2 rfl).trans ((gFr.at FM4 (rA_6 hq).2.2 rfl).trans rfl)))), fun k => (((xM37.2.2.2.2 q hq hn).2 k).trans ((gFr.at FM14 (rAA_2 hq k).2.2 rfl).trans ((gFr.at FM9 (rAA_2 hq k).2.2 rfl).trans ((gFr.at FM4 (rAA_2 hq k).2.2 rfl).trans rfl))))⟩)⟩⟩
          · refine g_iconst (n := 47) X dX7_readClause_46 rfl ?_
            refine g_goto (tgt := 51) X dX7_readClause_47 (by decide) ?_
            refine g_istore (n := 53) (L' := [(4, gJ 1), (3, gJ v13), (2, gJ v3), (0, gA n0 159), (1, gA n0 o)]) X dX7_readClause_51 (by decide) rfl rfl ?_
            refine g_iload (n := 55) X 0 dX7_readClause_53 rfl rfl ?_
            refine g_if_eq (n := 58) (tgt := 69) X dX7_readClause_55 (by decide) (by omega) rfl (fun c40 => by exfalso; omega) (fun c40 => ?_)
            refine g_aload_n (n := 59) X 3 dX7_readClause_58 rfl rfl rfl ?_
            refine g_bipush (n := 61) X dX7_readClause_59 (by decide +kernel) rfl ?_
            refine g_callVi (n := 64) (As := [gJ 32]) (rest := []) (cs1 := 0) (ss1 := 0) X (e_X7_skip 32 (by omega) o r_o hsz IM14 CM14 ((gFr.at FM14 rc_159_0.2.2 rfl).trans ((gFr.at FM9 rc_159_0.2.2 rfl).trans ((gFr.at FM4 rc_159_0.2.2 rfl).trans ht))) T (gTc.eq hT (gFr.at ((gFr.c (gFr.c (gFr.c gFr.rf FM4 rfl) FM9 rfl) FM14 rfl) : gFr 536870912 M M14) rc_159_1.2.2 rfl) (fun b => gFr.at ((gFr.c (gFr.c (gFr.c gFr.rf FM4 rfl) FM9 rfl) FM14 rfl) : gFr 536870912 M M14) (rAA_1 r_o b).2.2 rfl))) okX7_skip kw_4_44 ⟨kw_4_46, kw_0_9⟩ ⟨rfl, rfl⟩ ⟨Nat.le_of_ble_eq_true rfl, Nat.le_of_ble_eq_true rfl⟩ rfl (by decide) (gsz hsz (by decide)) lay_159 rfl rfl (Nat.le_of_ble_eq_true rfl) ⟨Nat.le_of_ble_eq_true rfl, Nat.le_of_ble_eq_true rfl⟩ rfl rfl dX7_readClause_61 rfl (fun v41 M42 P43 => ?_)
            obtain ⟨rv41, IM42, CM42, FM42, xM42⟩ := P43
            rw [show M14 159 2 = v16 from hv16] at xM42
            obtain ⟨v44, hv44, rv44⟩ := gRd IM42 (by decide) (gsz hsz (by decide)) rc_159_2.1
            rw [hv44] at xM42
            refine g_if_ne (n := 67) (tgt := 69) X dX7_readClause_64 (by decide) (by omega) rfl (fun c45 => ?_) (fun c45 => ?_)
            · refine g_aload_n (n := 70) X 4 dX7_readClause_69 rfl rfl rfl ?_
              refine g_iload_n (n := 71) X 2 dX7_readClause_70 rfl rfl rfl ?_
              refine g_iload_n (n := 72) X 1 dX7_readClause_71 rfl rfl rfl ?_
              refine g_aload_n (n := 73) X 3 dX7_readClause_72 rfl rfl rfl ?_
              refine gg_7_2 (n := 76) (z := v44) X (by decide) (gsz hsz (by decide)) lay_159 kw_2_213 dX7_readClause_73 rfl hv44 ?_
              refine g_callVv (n := 79) (As := [gJ v3, gJ v13, gJ v44]) (rest := []) (cs1 := 0) (ss1 := 0) X (e_X0_addClause o r_o v3 (by omega) v13 (by omega) v44 (by omega) hsz IM42 CM42 (by omega) (fun hc => by rw [show M42 (o + 2) v3 = M (o + 2) v3 from ((gFr.at FM42 (rAA_2 r_o v3).2.2 rfl).trans ((gFr.at FM14 (rAA_2 r_o v3).2.2 rfl).trans ((gFr.at FM9 (rAA_2 r_o v3).2.2 rfl).trans ((gFr.at FM4 (rAA_2 r_o v3).2.2 rfl).trans rfl))))]; exact hb9 _ hc)) okX0_addClause kw_4_63 ⟨kw_4_64, kw_4_65⟩ ⟨rfl, rfl⟩ ⟨Nat.le_of_ble_eq_true rfl, Nat.le_of_ble_eq_true rfl⟩ rfl (Ao0 r_o) (Aosz hsz r_o) (lay2_A r_o) rfl rfl (Nat.le_of_ble_eq_true rfl) ⟨Nat.le_of_ble_eq_true rfl, Nat.le_of_ble_eq_true rfl⟩ rfl rfl dX7_readClause_76 rfl (fun M47 P48 => ?_)
              obtain ⟨IM47, CM47, FM47, xM47⟩ := P48
              refine g_iload (n := 81) X 0 dX7_readClause_79 rfl rfl ?_
              refine g_if_eq (n := 84) (tgt := 91) X dX7_readClause_81 (by decide) (by omega) rfl (fun c49 => by exfalso; omega) (fun c49 => ?_)
              refine g_aload_n (n := 85) X 3 dX7_readClause_84 rfl rfl rfl ?_
              refine g_callVi (n := 88) (As := []) (rest := []) (cs1 := 0) (ss1 := 0) X (e_X7_readCondition o r_o hsz IM47 CM47 ((gFr.at FM47 rc_159_0.2.2 rfl).trans ((gFr.at FM42 rc_159_0.2.2 rfl).trans ((gFr.at FM14 rc_159_0.2.2 rfl).trans ((gFr.at FM9 rc_159_0.2.2 rfl).trans ((gFr.at FM4 rc_159_0.2.2 rfl).trans ht))))) T (gTc.eq (gTc.eq hT (gFr.at ((gFr.c (gFr.c (gFr.c (gFr.c gFr.rf FM4 rfl) FM9 rfl) FM14 rfl) FM42 rfl) : gFr 536870912 M M42) rc_159_1.2.2 rfl) (fun b => gFr.at ((gFr.c (gFr.c (gFr.c (gFr.c gFr.rf FM4 rfl) FM9 rfl) FM14 rfl) FM42 rfl) : gFr 536870912 M M42) (rAA_1 r_o b).2.2 rfl)) (gFr.at FM47 rc_159_1.2.2 rfl) xM47.1)) okX7_readCondition kw_4_68 ⟨kw_4_70, kw_0_13⟩ ⟨rfl, rfl⟩ ⟨Nat.le_of_ble_eq_true rfl, Nat.le_of_ble_eq_true rfl⟩ rfl (by decide) (gsz hsz (by decide)) lay_159 rfl rfl (Nat.le_of_ble_eq_true rfl) ⟨Nat.le_of_ble_eq_true rfl, Nat.le_of_ble_eq_true rfl⟩ rfl rfl dX7_readClause_85 rfl (fun v50 M51 P52 => ?_)
              obtain ⟨rv50, IM51, CM51, FM51, xM51⟩ := P52
              rw [show M47 159 2 = v44 from ((gFr.at FM47 rc_159_2.2.2 rfl).trans hv44)] at xM51
              obtain ⟨v53, hv53, rv53⟩ := gRd IM51 (by decide) (gsz hsz (by decide)) rc_159_2.1
              rw [hv53] at xM51
              refine g_if_eq (n := 91) (tgt := 95) X dX7_readClause_88 (by decide) (by omega) rfl (fun c54 => ?_) (fun c54 => ?_)
              · refine g_iconst (n := 96) X dX7_readClause_95 rfl ?_
                exact hq _ _ _ _ dX7_readClause_96 (by omega) ⟨by omega, IM51, CM51, (gFr.c (gFr.c (gFr.c (gFr.c (gFr.c (gFr.c gFr.rf FM4 rfl) FM9 rfl) FM14 rfl) FM42 rfl) FM47 rfl) FM51 rfl), ⟨(by have zb2 : M 159 2 = v1 := hv1; have ze2 : M51 159 2 = v53 := hv53; (rcases xM4 with ⟨u1, u2⟩ | ⟨u1, u2, u3⟩; (exfalso; omega); have v1 : T (v1 + (gWn v3 - 1)) = 32 := (by rw [show v1 + (gWn v3 - 1) = v6 by omega]; omega); have v2 := gCl_of (gWrd_w (q := v11) u1 u2 v1 (by omega)) u1.1; rcases xM14.1 with ⟨a1, a2⟩ | ⟨a1, a2⟩; (exfalso; omega); have v3 := gClW_2 a2 a1 (by omega) (by omega); rw [show v44 = v16 + 1 by omega] at xM51; rcases xM51 with ⟨b1, b2, b3⟩ | ⟨b1, b2⟩; (first | (exfalso; omega) | (exact Or.inl ⟨by omega, by rw [zb2, v2, v3]; show 0 ≤ gR T (v16 + 1) [] true; omega, by rw [zb2, v2, v3]; show gR T (v16 + 1) [] true = M51 159 2; omega⟩)); (first | (exfalso; omega) | (exact Or.inr ⟨by omega, by rw [zb2, v2, v3]; show gR T (v16 + 1) [] true = -1 - M51 159 2; omega⟩)))), (fun i => ((gFr.at FM51 (rAA_1 r_o i).2.2 rfl).trans ((xM47.1 i).trans ((gFr.at FM42 (rAA_1 r_o i).2.2 rfl).trans ((gFr.at FM14 (rAA_1 r_o i).2.2 rfl).trans ((gFr.at FM9 (rAA_1 r_o i).2.2 rfl).trans ((gFr.at FM4 (rAA_1 r_o i).2.2 rfl).trans rfl))))))), (fun g => by exfalso; omega), ((gFr.at FM51 (rA_6 r_o).2.2 rfl).trans (xM47.2.2.2.1.trans ((gFr.at FM42 (rA_6 r_o).2.2 rfl).trans ((gFr.at FM14 (rA_6 r_o).2.2 rfl).trans ((gFr.at FM9 (rA_6 r_o).2.2 rfl).trans ((gFr.at FM4 (rA_6 r_o).2.2 rfl).trans rfl)))))), (fun q hq hn => ⟨((gFr.at FM51 (rA_6 hq).2.2 rfl).trans ((xM47.2.2.2.2 q hq hn).1.trans ((gFr.at FM42 (rA_6 hq).2.2 rfl).trans ((gFr.at FM14 (rA_6 hq).2.2 rfl).trans ((gFr.at FM9 (rA_6 hq).2.2 rfl).trans ((gFr.at FM4 (rA_6 hq).2.2 rfl).trans rfl)))))), fun k => ((gFr.at FM51 (rAA_2 hq k).2.2 rfl).trans (((xM47.2.2.2.2 q hq hn).2 k).trans ((gFr.at FM42 (rAA_2 hq k).2.2 rfl).trans ((gFr.at FM14 (rAA_2 hq k).2.2 rfl).trans ((gFr.at FM9 (rAA_2 hq k).2.2 rfl).trans ((gFr.at FM4 (rAA_2 hq k).2.2 rfl).trans rfl))))))⟩)⟩⟩
              · refine g_iconst (n := 92) X dX7_readClause_91 rfl ?_
                refine g_goto (tgt := 96) X dX7_readClause_92 (by decide) ?_
                exact hq _ _ _ _ dX7_readClause_96 (by omega) ⟨by omega, IM51, CM51, (gFr.c (gFr.c (gFr.c (gFr.c (gFr.c (gFr.c gFr.rf FM4 rfl) FM9 rfl) FM14 rfl) FM42 rfl) FM47 rfl) FM51 rfl), ⟨(by have zb2 : M 159 2 = v1 := hv1; have ze2 : M51 159 2 = v53 := hv53; (rcases xM4 with ⟨u1, u2⟩ | ⟨u1, u2, u3⟩; (exfalso; omega); have v1 : T (v1 + (gWn v3 - 1)) = 32 := (by rw [show v1 + (gWn v3 - 1) = v6 by omega]; omega); have v2 := gCl_of (gWrd_w (q := v11) u1 u2 v1 (by omega)) u1.1; rcases xM14.1 with ⟨a1, a2⟩ | ⟨a1, a2⟩; (exfalso; omega); have v3 := gClW_2 a2 a1 (by omega) (by omega); rw [show v44 = v16 + 1 by omega] at xM51; rcases xM51 with ⟨b1, b2, b3⟩ | ⟨b1, b2⟩; (first | (exfalso; omega) | (exact Or.inl ⟨by omega, by rw [zb2, v2, v3]; show 0 ≤ gR T (v16 + 1) [] true; omega, by rw [zb2, v2, v3]; show gR T (v16 + 1) [] true = M51 159 2; omega⟩)); (first | (exfalso; omega) | (exact Or.inr ⟨by omega, by rw [zb2, v2, v3]; show gR T (v16 + 1) [] true = -1 - M51 159 2; omega⟩)))), (fun i => ((gFr.at FM51 (rAA_1 r_o i).2.2 rfl).trans ((xM47.1 i).trans ((gFr.at FM42 (rAA_1 r_o i).2.2 rfl).trans ((gFr.at FM14 (rAA_1 r_o i).2.2 rfl).trans ((gFr.at FM9 (rAA_1 r_o i).2.2 rfl).trans ((gFr.at FM4 (rAA_1 r_o i).2.2 rfl).trans rfl))))))), (by have zb2 : M 159 2 = v1 := hv1; have ze2 : M51 159 2 = v53 := hv53; intro hz7 hc; rcases xM4 with ⟨u1, u2⟩ | ⟨u1, u2, u3⟩; (exfalso; omega); have vw1 : T (v1 + (gWn v3 - 1)) = 32 := (by rw [show v1 + (gWn v3 - 1) = v6 by omega]; omega); have vw2 := gCl_of (gWrd_w (q := v11) u1 u2 vw1 (by omega)) u1.1; rcases xM14.1 with ⟨a1, a2⟩ | ⟨a1, a2⟩; (exfalso; omega); have vw3 := gClW_2 a2 a1 (by omega) (by omega); have w7a : M51 o 7 = M47 o 7 := ((gFr.at FM51 (rA_7 r_o).2.2 rfl).trans rfl); have w7b : M42 o 7 = M o 7 := ((gFr.at FM42 (rA_7 r_o).2.2 rfl).trans ((gFr.at FM14 (rA_7 r_o).2.2 rfl).trans ((gFr.at FM9 (rA_7 r_o).2.2 rfl).trans ((gFr.at FM4 (rA_7 r_o).2.2 rfl).trans rfl)))); have ws : ∀ k : Int, M51 (o + 2) k = M47 (o + 2) k := fun k => ((gFr.at FM51 (rAA_2 r_o k).2.2 rfl).trans rfl); have wt : ∀ k : Int, M42 (o + 2) k = M (o + 2) k := fun k => ((gFr.at FM42 (rAA_2 r_o k).2.2 rfl).trans ((gFr.at FM14 (rAA_2 r_o k).2.2 rfl).trans ((gFr.at FM9 (rAA_2 r_o k).2.2 rfl).trans ((gFr.at FM4 (rAA_2 r_o k).2.2 rfl).trans rfl)))); have y := xM47.2.1 (by omega); refine ⟨by omega, fun k k0 k1 => ?_⟩; rw [zb2, vw2, vw3]; show M51 (o + 2) k = gUq (M (o + 2) k) k v3 v13; unfold gUq; by_cases c9 : k = v3; (rw [if_pos c9, c9, ws, y.2, wt]); (rw [if_neg c9, ws, xM47.2.2.1 k c9, wt])), ((gFr.at FM51 (rA_6 r_o).2.2 rfl).trans (xM47.2.2.2.1.trans ((gFr.at FM42 (rA_6 r_o).2.2 rfl).trans ((gFr.at FM14 (rA_6 r_o).2.2 rfl).trans ((gFr.at FM9 (rA_6 r_o).2.2 rfl).trans ((gFr.at FM4 (rA_6 r_o).2.2 rfl).trans rfl)))))), (fun q hq hn => ⟨((gFr.at FM51 (rA_6 hq).2.2 rfl).trans ((xM47.2.2.2.2 q hq hn).1.trans ((gFr.at FM42 (rA_6 hq).2.2 rfl).trans ((gFr.at FM14 (rA_6 hq).2.2 rfl).trans ((gFr.at FM9 (rA_6 hq).2.2 rfl).trans ((gFr.at FM4 (rA_6 hq).2.2 rfl).trans rfl)))))), fun k => ((gFr.at FM51 (rAA_2 hq k).2.2 rfl).trans (((xM47.2.2.2.2 q hq hn).2 k).trans ((gFr.at FM42 (rAA_2 hq k).2.2 rfl).trans ((gFr.at FM14 (rAA_2 hq k).2.2 rfl).trans ((gFr.at FM9 (rAA_2 hq k).2.2 rfl).trans ((gFr.at FM4 (rAA_2 hq k).2.2 rfl).trans rfl))))))⟩)⟩⟩
            · refine g_iconst (n := 68) X dX7_readClause_67 rfl ?_
              exact hq _ _ _ _ dX7_readClause_68 (by omega) ⟨by omega, IM42, CM42, (gFr.c (gFr.c (gFr.c (gFr.c gFr.rf FM4 rfl) FM9 rfl) FM14 rfl) FM42 rfl), ⟨(by have zb2 : M 159 2 = v1 := hv1; have ze2 : M42 159 2 = v44 := hv44; (rcases xM4 with ⟨u1, u2⟩ | ⟨u1, u2, u3⟩; (exfalso; omega); have v1 : T (v1 + (gWn v3 - 1)) = 32 := (by rw [show v1 + (gWn v3 - 1) = v6 by omega]; omega); have v2 := gCl_of (gWrd_w (q := v11) u1 u2 v1 (by omega)) u1.1; rcases xM14.1 with ⟨a1, a2⟩ | ⟨a1, a2⟩; (exfalso; omega); have v3 := gClW_3 a2 a1 (by omega) (by omega); exact Or.inr ⟨by omega, by rw [zb2, v2, v3]; show -1 - v16 = -1 - M42 159 2; omega⟩)), (fun i => ((gFr.at FM42 (rAA_1 r_o i).2.2 rfl).trans ((gFr.at FM14 (rAA_1 r_o i).2.2 rfl).trans ((gFr.at FM9 (rAA_1 r_o i).2.2 rfl).trans ((gFr.at FM4 (rAA_1 r_o i).2.2 rfl).trans rfl))))), (fun g => by exfalso; omega), ((gFr.at FM42 (rA_6 r_o).2.2 rfl).trans ((gFr.at FM14 (rA_6 r_o).2.2 rfl).trans ((gFr.at FM9 (rA_6 r_o).2.2 rfl).trans ((gFr.at FM4 (rA_6 r_o).2.2 rfl).trans rfl)))), (fun q hq hn => ⟨((gFr.at FM42 (rA_6 hq).2.2 rfl).trans ((gFr.at FM14 (rA_6 hq).2.2 rfl).trans ((gFr.at FM9 (rA_6 hq).2.2 rfl).trans ((gFr.at FM4 (rA_6 hq).2.2 rfl).trans rfl)))), fun k => ((gFr.at FM42 (rAA_2 hq k).2.2 rfl).trans ((gFr.at FM14 (rAA_2 hq k).2.2 rfl).trans ((gFr.at FM9 (rAA_2 hq k).2.2 rfl).trans ((gFr.at FM4 (rAA_2 hq k).2.2 rfl).trans rfl))))⟩)⟩⟩
      · refine g_iconst (n := 33) X dX7_readClause_32 rfl ?_
        exact hq _ _ _ _ dX7_readClause_33 (by omega) ⟨by omega, IM14, CM14, (gFr.c (gFr.c (gFr.c gFr.rf FM4 rfl) FM9 rfl) FM14 rfl), ⟨(by have zb2 : M 159 2 = v1 := hv1; have ze2 : M14 159 2 = v16 := hv16; (rcases xM4 with ⟨u1, u2⟩ | ⟨u1, u2, u3⟩; (exfalso; omega); have v1 : T (v1 + (gWn v3 - 1)) = 32 := (by rw [show v1 + (gWn v3 - 1) = v6 by omega]; omega); have v2 := gCl_of (gWrd_w (q := v11) u1 u2 v1 (by omega)) u1.1; rcases xM14.1 with ⟨a1, a2⟩ | ⟨a1, a2⟩; (exact Or.inr ⟨by omega, by rw [zb2, v2, gClW_v a2]; omega⟩); (exfalso; omega))), (fun i => ((gFr.at FM14 (rAA_1 r_o i).2.2 rfl).trans ((gFr.at FM9 (rAA_1 r_o i).2.2 rfl).trans ((gFr.at FM4 (rAA_1 r_o i).2.2 rfl).trans rfl)))), (fun g => by exfalso; omega), ((gFr.at FM14 (rA_6 r_o).2.2 rfl).trans ((gFr.at FM9 (rA_6 r_o).2.2 rfl).trans ((gFr.at FM4 (rA_6 r_o).2.2 rfl).trans rfl))), (fun q hq hn => ⟨((gFr.at FM14 (rA_6 hq).2.2 rfl).trans ((gFr.at FM9 (rA_6 hq).2.2 rfl).trans ((gFr.at FM4 (rA_6 hq).2.2 rfl).trans rfl))), fun k => ((gFr.at FM14 (rAA_2 hq k).2.2 rfl).trans ((gFr.at FM9 (rAA_2 hq k).2.2 rfl).trans ((gFr.at FM4 (rAA_2 hq k).2.2 rfl).trans rfl)))⟩)⟩⟩
    · refine g_iconst (n := 20) X dX7_readClause_19 rfl ?_
      exact hq _ _ _ _ dX7_readClause_20 (by omega) ⟨by omega, IM9, CM9, (gFr.c (gFr.c gFr.rf FM4 rfl) FM9 rfl), ⟨(by have zb2 : M 159 2 = v1 := hv1; have ze2 : M9 159 2 = v11 := hv11; (rcases xM4 with ⟨u1, u2⟩ | ⟨u1, u2, u3⟩; (exfalso; omega); have v1 : ¬ T (v1 + (gWn v3 - 1)) = 32 := (by rw [show v1 + (gWn v3 - 1) = v6 by omega]; omega); exact Or.inr ⟨by omega, by rw [zb2, gCl_no (gWrd_blank u1 u2 v1)]; omega⟩)), (fun i => ((gFr.at FM9 (rAA_1 r_o i).2.2 rfl).trans ((gFr.at FM4 (rAA_1 r_o i).2.2 rfl).trans rfl))), (fun g => by exfalso; omega), ((gFr.at FM9 (rA_6 r_o).2.2 rfl).trans ((gFr.at FM4 (rA_6 r_o).2.2 rfl).trans rfl)), (fun q hq hn => ⟨((gFr.at FM9 (rA_6 hq).2.2 rfl).trans ((gFr.at FM4 (rA_6 hq).2.2 rfl).trans rfl)), fun k => ((gFr.at FM9 (rAA_2 hq k).2.2 rfl).trans ((gFr.at FM4 (rAA_2 hq k).2.2 rfl).trans rfl))⟩)⟩⟩
abbrev R_e_X0_begin : Room := { frames := 4, cells := 0, slots := 0, locals := 120 }
set_option maxRecDepth 100000 in
set_option maxHeartbeats 4000000 in
theorem e_X0_begin {l : Launch} {n0 : Nat} {D : va_G} {cA : Nat → ClassId} {M : gM} (o : Int) (r_o : 87 ≤ o ∧ o ≤ 147 ∧ (o - 87) % 6 = 0) (b : Int) (r_b : 0 ≤ b ∧ b ≤ 150) (c : Int) (r_c : 0 ≤ c ∧ c ≤ 300) {sz : Nat} (hsz : 206 ≤ sz) (I : gI sz M) (C : gC sz M)   : Met l yX0_begin (gWsOf yX0_begin cX0_begin 5 (Option.none : Option Jvm.ClassFile.FieldType)) R_e_X0_begin (gPc n0 D cA [gA n0 o, gA n0 8, gJ b, gJ c] M sz) (gQv n0 D cA sz (fun M1 => gI sz M1 ∧ gC sz M1 ∧ gFr 256 M M1 ∧ ((M1 o 5 = b ∧ (∀ i : Int, 0 ≤ i → i < b → M1 (o + 1) i = M 8 i)) ∧ M1 o 7 = 0 ∧ (∀ k : Int, 0 ≤ k → k < 10 → M1 (o + 2) k = -1) ∧ M1 o 6 = c ∧ (∀ q : Int, 87 ≤ q ∧ q ≤ 147 ∧ (q - 87) % 6 = 0 → ¬ q = o → M1 q 6 = M q 6 ∧ (∀ k : Int, M1 (q + 2) k = M (q + 2) k))))) 0 0 (fun q => n0 ≤ q) := by
  refine gMetV [gA n0 o, gA n0 8, gJ b, gJ c] (by decide) (Nat.le_of_ble_eq_true rfl) ⟨rfl, rfl⟩ ?_
  intro p e s m args below meth cd Q X hq
  have X : gCx p s m args meth cd n0 D cA "ParishUnion$Act" cX0_begin 5 := X
  show G p l e R_e_X0_begin s m args below meth cd n0 D cA 5 Q 0 0 M sz 0 [(0, gA n0 o), (1, gA n0 8), (2, gJ b), (3, gJ c)] []
  refine g_aload_n (n := 1) X 1 dX0_begin_0 rfl rfl rfl ?_
  refine g_iconst (n := 2) X dX0_begin_1 rfl ?_
  refine g_aload_n (n := 3) X 0 dX0_begin_2 rfl rfl rfl ?_
  refine gg_0_0 (n := 6) (z := o + 1) X (Ao0 r_o) (Aosz hsz r_o) (lay2_A r_o) kw_2_71 dX0_begin_3 rfl (rfA_0 I hsz r_o) (by omega) ?_
  refine g_iconst (n := 7) X dX0_begin_6 rfl ?_
  refine g_iload_n (n := 8) X 2 dX0_begin_7 rfl rfl rfl ?_
  refine g_acopyB (n := 11) X kw_3_207 kw_3_209 kw_3_208 kw_1_16 (by decide) (gsz hsz (by decide)) lay_8 (A1o0 r_o) (A1osz hsz r_o) (lay2_A1 r_o) (by omega) (by omega) (by omega) (by omega) (gI.bytes I (by decide) (gsz hsz (by decide)) (fun _ => rfl)) (Nat.le_of_ble_eq_true rfl) (Nat.le_of_ble_eq_true rfl) dX0_begin_8 rfl ?_
  refine G.nm (fun M1 e2 => ?_)
  have IM1 : gI sz M1 := gI.cpy I (by decide) (gsz hsz (by decide)) (fun k => ((rAA_1 r_o k).1.trans (ra_8 k).1.symm)) e2
  have CM1 : gC sz M1 := gC.cpy C (fun k => (rAA_1 r_o k).2.1) e2
  refine g_aload_n (n := 12) X 0 dX0_begin_11 rfl rfl rfl ?_
  refine g_iload_n (n := 13) X 2 dX0_begin_12 rfl rfl rfl ?_
  refine gp_0_5 (n := 16) X (Ao0 r_o) (Aosz hsz r_o) (lay2_A r_o) kw_2_82 dX0_begin_13 rfl ?_
  refine G.nm (fun M3 e4 => ?_)
  have IM3 : gI sz M3 := gI.set IM1 (rA_5 r_o).1 (by omega) e4
  have CM3 : gC sz M3 := gC.set CM1 (rA_5 r_o).2.1 e4
  refine g_aload_n (n := 17) X 0 dX0_begin_16 rfl rfl rfl ?_
  refine g_iload_n (n := 18) X 3 dX0_begin_17 rfl rfl rfl ?_
  refine gp_0_6 (n := 21) X (Ao0 r_o) (Aosz hsz r_o) (lay2_A r_o) kw_2_83 dX0_begin_18 rfl ?_
  refine G.nm (fun M5 e6 => ?_)
  have IM5 : gI sz M5 := gI.set IM3 (rA_6 r_o).1 (by omega) e6
  have CM5 : gC sz M5 := gC.set CM3 (rA_6 r_o).2.1 e6
  refine g_aload_n (n := 22) X 0 dX0_begin_21 rfl rfl rfl ?_
  refine g_iconst (n := 23) X dX0_begin_22 rfl ?_
  refine gp_0_7 (n := 26) X (Ao0 r_o) (Aosz hsz r_o) (lay2_A r_o) kw_2_85 dX0_begin_23 rfl ?_
  refine G.nm (fun M7 e8 => ?_)
  have IM7 : gI sz M7 := gI.set IM5 (rA_7 r_o).1 (by omega) e8
  have CM7 : gC sz M7 := gC.set CM5 (rA_7 r_o).2.1 e8
  refine g_iconst (n := 27) X dX0_begin_26 rfl ?_
  refine g_istore (n := 29) (L' := [(4, gJ 0), (0, gA n0 o), (1, gA n0 8), (2, gJ b), (3, gJ c)]) X dX0_begin_27 (by decide) rfl rfl ?_
  have j11 : ∀ (N15 : Nat) (v9 : Int) (M10 : gM) , (0 ≤ v9 ∧ v9 ≤ 10) → gI sz M10 → gC sz M10 → gFr 256 M7 M10 → (∀ k : Int, 0 ≤ k → k < v9 → M10 (o + 2) k = -1) → (M10 o 6 = c) → (M10 o 7 = 0) → ((∀ q : Int, 87 ≤ q ∧ q ≤ 147 ∧ (q - 87) % 6 = 0 → ¬ q = o → M10 q 6 = M q 6 ∧ (∀ k : Int, M10 (q + 2) k = M (q + 2) k))) → (∀ i : Int, 0 ≤ i → i < b → M10 (o + 1) i = M 8 i) → (M10 o 5 = b) → (10 - v9).toNat < N15 → G p l e R_e_X0_begin s m args below meth cd n0 D cA 5 Q 0 0 M10 sz 29 [(0, gA n0 o), (4, gJ v9)] [] := by
    intro N15; induction N15 with
    | zero => intro v9 M10 rv9 IM10 CM10 FM10 hm9 h6 h7 hO ht h5 hm17; exfalso; omega
    | succ N15 ih16 =>
      intro v9 M10 rv9 IM10 CM10 FM10 hm9 h6 h7 hO ht h5 hm17
      refine g_iload (n := 31) X 1 dX0_begin_29 rfl rfl ?_
      refine g_bipush (n := 33) X dX0_begin_31 (by decide +kernel) rfl ?_
      refine g_icmp_ge (n := 36) (tgt := 50) X dX0_begin_33 (by decide) (by omega) (by omega) rfl (fun c18 => ?_) (fun c18 => ?_)
      · exact hq _ _ _ dX0_begin_50 ⟨IM10, CM10, (gFr.c (gFr.s (gFr.s (gFr.s (gFr.y gFr.rf e2 (fun k => (rAA_1 r_o k).2.2) rfl) e4 (rA_5 r_o).2.2 rfl) e6 (rA_6 r_o).2.2 rfl) e8 (rA_7 r_o).2.2 rfl) FM10 rfl), ⟨⟨h5, ht⟩, h7, fun k k0 k1 => hm9 k k0 (by omega), h6, hO⟩⟩
      · refine g_aload_n (n := 37) X 0 dX0_begin_36 rfl rfl rfl ?_
        refine gg_0_1 (n := 40) (z := o + 2) X (Ao0 r_o) (Aosz hsz r_o) (lay2_A r_o) kw_2_73 dX0_begin_37 rfl (rfA_1 IM10 hsz r_o) (by omega) ?_
        refine g_iload (n := 42) X 1 dX0_begin_40 rfl rfl ?_
        refine g_iconst (n := 43) X dX0_begin_42 rfl ?_
        refine g_iast (n := 44) X (A2o0 r_o) (A2osz hsz r_o) (lay2_A2 r_o) (by omega) (by omega) (by decide) dX0_begin_43 rfl ?_
        refine G.nm (fun M19 e20 => ?_)
        have IM19 : gI sz M19 := gI.set IM10 (rAA_2 r_o v9).1 (by omega) e20
        have CM19 : gC sz M19 := gC.set CM10 (rAA_2 r_o v9).2.1 e20
        refine g_iinc (n := 47) (w := v9 + 1) (L' := [(4, gJ (v9 + 1)), (0, gA n0 o)]) X 1 dX0_begin_44 rfl rfl (by decide) rfl rfl ?_
        refine g_goto (tgt := 29) X dX0_begin_47 (by decide) ?_
        refine G.sub (L' := [(0, gA n0 o), (4, gJ (v9 + 1))]) [1, 0] rfl ?_
        exact ih16 (v9 + 1) M19 (by omega) IM19 CM19 (gFr.s (gFr.c gFr.rf FM10 rfl) e20 (rAA_2 r_o v9).2.2 rfl) (fun k k0 k1 => by by_cases c9 : k = v9; (rw [c9, e20, gset_eq]); (rw [e20, gset_ne (by omega)]; exact hm9 k k0 (by omega))) (((congrFun (congrFun e20 _) _).trans ((gset_ne (by omega)).trans h6))) (((congrFun (congrFun e20 _) _).trans ((gset_ne (by omega)).trans h7))) (fun q hq hn => ⟨((congrFun (congrFun e20 _) _).trans ((gset_ne (by omega)).trans (hO q hq hn).1)), fun k => ((congrFun (congrFun e20 _) _).trans ((gset_ne (by omega)).trans ((hO q hq hn).2 k)))⟩) (fun i h0 h1 => ((congrFun (congrFun e20 _) _).trans ((gset_ne (by omega)).trans (ht i h0 h1)))) (((congrFun (congrFun e20 _) _).trans ((gset_ne (by omega)).trans h5))) (by omega)
  refine G.sub (L' := [(0, gA n0 o), (4, gJ 0)]) [1, 0] rfl ?_
  exact j11 _ 0 M7 (by omega) IM7 CM7 gFr.rf (fun k k0 k1 => by exfalso; omega) (((congrFun (congrFun e8 _) _).trans ((gset_ne (by omega)).trans ((congrFun (congrFun e6 _) _).trans (gset_eq _ _ _ _))))) (((congrFun (congrFun e8 _) _).trans (gset_eq _ _ _ _))) (fun q hq hn => ⟨((congrFun (congrFun e8 _) _).trans ((gset_ne (by omega)).trans ((congrFun (congrFun e6 _) _).trans ((gset_ne (by omega)).trans ((congrFun (congrFun e4 _) _).trans ((gset_ne (by omega)).trans ((congrFun (congrFun e2 _) _).trans ((gcpy_ne (by omega)).trans rfl)))))))), fun k => ((congrFun (congrFun e8 _) _).trans ((gset_ne (by omega)).trans ((congrFun (congrFun e6 _) _).trans ((gset_ne (by omega)).trans ((congrFun (congrFun e4 _) _).trans ((gset_ne (by omega)).trans ((congrFun (congrFun e2 _) _).trans ((gcpy_ne (by omega)).trans rfl))))))))⟩) (fun i h0 h1 => ((congrFun (congrFun e8 _) _).trans ((gset_ne (by omega)).trans ((congrFun (congrFun e6 _) _).trans ((gset_ne (by omega)).trans ((congrFun (congrFun e4 _) _).trans ((gset_ne (by omega)).trans ((congrFun (congrFun e2 _) _).trans (gcpy_at (by omega)))))))))) (((congrFun (congrFun e8 _) _).trans ((gset_ne (by omega)).trans ((congrFun (congrFun e6 _) _).trans ((gset_ne (by omega)).trans ((congrFun (congrFun e4 _) _).trans (gset_eq _ _ _ _))))))) (Nat.lt_succ_self _)
theorem dX7_read_81 : decode cX7_read 81 = .ok (.aload_n 0, 1) := by decide +kernel
theorem dX7_read_82 : decode cX7_read 82 = .ok (.getfield 23, 3) := by decide +kernel
theorem dX7_read_85 : decode cX7_read 85 = .ok (.ireturn, 1) := by decide +kernel
abbrev R_e_X7_read : Room := { frames := 8, cells := 0, slots := 0, locals := 174 }
set_option maxRecDepth 100000 in
set_option maxHeartbeats 4000000 in
theorem e_X7_read {l : Launch} {n0 : Nat} {D : va_G} {cA : Nat → ClassId} {M : gM} (oa : Int) (r_oa : 87 ≤ oa ∧ oa ≤ 147 ∧ (oa - 87) % 6 = 0) {sz : Nat} (hsz : 206 ≤ sz) (I : gI sz M) (C : gC sz M) (T : Int → Int) (hTa : gTa M oa = T) (h70 : M oa 7 = 0) (hs0 : ∀ k : Int, 0 ≤ k → k < 10 → M (oa + 2) k = -1)  : Met l yX7_read (gWsOf yX7_read cX7_read 3 (Option.some Jvm.ClassFile.FieldType.int)) R_e_X7_read (gPc n0 D cA [gA n0 159, gA n0 oa] M sz) (gQi n0 D cA sz (fun z M1 => (-1 ≤ z ∧ z ≤ 150) ∧ gI sz M1 ∧ gC sz M1 ∧ gFr 1006633216 M M1 ∧ (z = gAct T (M oa 5) 8 0 ∧ M1 oa 6 = M oa 6 ∧ (∀ q : Int, 87 ≤ q ∧ q ≤ 147 ∧ (q - 87) % 6 = 0 → ¬ q = oa → M1 q 6 = M q 6 ∧ (∀ k : Int, M1 (q + 2) k = M (q + 2) k)) ∧ (z = -1 → ∃ m : Nat, m ≤ 8 ∧ gFin T (M oa 5) m ∧ (∀ k : Int, 0 ≤ k → k ≤ 9 → M1 (oa + 2) k = gSy T k m))))) 0 0 (fun q => n0 ≤ q) := by
  refine gMetI [gA n0 159, gA n0 oa] (by decide) (Nat.le_of_ble_eq_true rfl) ⟨rfl, rfl⟩ ?_
  intro p e s m args below meth cd Q X hq
  have X : gCx p s m args meth cd n0 D cA "ParishUnion$Reader" cX7_read 3 := X
  show G p l e R_e_X7_read s m args below meth cd n0 D cA 3 Q 0 0 M sz 0 [(0, gA n0 159), (1, gA n0 oa)] []
  obtain ⟨v1, hv1, rv1⟩ := gRd I (Ao0 r_oa) (Aosz hsz r_oa) (rA_5 r_oa).1
  refine g_aload_n (n := 1) X 0 dX7_read_0 rfl rfl rfl ?_
  refine g_aload_n (n := 2) X 1 dX7_read_1 rfl rfl rfl ?_
  refine gg_0_0 (n := 5) (z := oa + 1) X (Ao0 r_oa) (Aosz hsz r_oa) (lay2_A r_oa) kw_2_72 dX7_read_2 rfl (rfA_0 I hsz r_oa) (by omega) ?_
  refine gp_7_0 (n := 8) X (by decide) (gsz hsz (by decide)) lay_159 kw_2_211 (by omega) dX7_read_5 rfl ?_
  refine G.nm (fun M2 e3 => ?_)
  have IM2 : gI sz M2 := gI.set I rc_159_0.1 (by omega) e3
  have CM2 : gC sz M2 := gC.set C rc_159_0.2.1 e3
  refine g_aload_n (n := 9) X 0 dX7_read_8 rfl rfl rfl ?_
  refine g_aload_n (n := 10) X 1 dX7_read_9 rfl rfl rfl ?_
  refine gg_0_5 (n := 13) (z := v1) X (Ao0 r_oa) (Aosz hsz r_oa) (lay2_A r_oa) kw_2_81 dX7_read_10 rfl ((congrFun (congrFun e3 _) _).trans ((gset_ne (by omega)).trans hv1)) ?_
  refine gp_7_1 (n := 16) X (by decide) (gsz hsz (by decide)) lay_159 kw_2_212 dX7_read_13 rfl ?_
  refine G.nm (fun M4 e5 => ?_)
  have IM4 : gI sz M4 := gI.set IM2 rc_159_1.1 (by omega) e5
  have CM4 : gC sz M4 := gC.set CM2 rc_159_1.2.1 e5
  refine g_aload_n (n := 17) X 0 dX7_read_16 rfl rfl rfl ?_
  refine g_iconst (n := 18) X dX7_read_17 rfl ?_
  refine gp_7_2 (n := 21) X (by decide) (gsz hsz (by decide)) lay_159 kw_2_213 dX7_read_18 rfl ?_
  refine G.nm (fun M6 e7 => ?_)
  have IM6 : gI sz M6 := gI.set IM4 rc_159_2.1 (by omega) e7
  have CM6 : gC sz M6 := gC.set CM4 rc_159_2.2.1 e7
  refine g_iconst (n := 22) X dX7_read_21 rfl ?_
  refine g_istore_n (n := 23) (L' := [(2, gJ 0), (0, gA n0 159), (1, gA n0 oa)]) X dX7_read_22 rfl (by decide) rfl rfl ?_
  have j10 : ∀ (N25 : Nat) (v8 : Int) (M9 : gM) , (0 ≤ v8 ∧ v8 ≤ 8) → gI sz M9 → gC sz M9 → gFr 603980032 M6 M9 → (M9 oa 7 = v8) → (∀ k : Int, 0 ≤ k → k ≤ 9 → M9 (oa + 2) k = gSy T k v8.toNat) → (M9 159 2 = gPl T v8.toNat) → (∀ j : Nat, (j : Int) < v8 → T (gCl T (gPl T j)).2.2.2 = 59) → (M9 oa 6 = M oa 6) → ((∀ q : Int, 87 ≤ q ∧ q ≤ 147 ∧ (q - 87) % 6 = 0 → ¬ q = oa → M9 q 6 = M q 6 ∧ (∀ k : Int, M9 (q + 2) k = M (q + 2) k))) → (gTc M9 oa = T) → (gAct T v1 8 0 = gAct T v1 (8 - v8).toNat (M9 159 2)) → (8 - v8).toNat < N25 → G p l e R_e_X7_read s m args below meth cd n0 D cA 3 Q 0 0 M9 sz 23 [(0, gA n0 159), (1, gA n0 oa), (2, gJ v8)] [] := by
    intro N25; induction N25 with
    | zero => intro v8 M9 rv8 IM9 CM9 FM9 h79 hS9 hP9 hT9 h69 hO9 hTc hA hm27; exfalso; omega
    | succ N25 ih26 =>
      intro v8 M9 rv8 IM9 CM9 FM9 h79 hS9 hP9 hT9 h69 hO9 hTc hA hm27
      obtain ⟨v28, hv28, rv28⟩ := gRd IM9 (by decide) (gsz hsz (by decide)) rc_159_2.1
      rw [hv28] at hA
      have hP2 : v28 = gPl T v8.toNat := hv28.symm.trans hP9
      refine g_iload_n (n := 24) X 2 dX7_read_23 rfl rfl rfl ?_
      refine g_bipush (n := 26) X dX7_read_24 (by decide +kernel) rfl ?_
      refine g_icmp_ge (n := 29) (tgt := 81) X dX7_read_26 (by decide) (by omega) (by omega) rfl (fun c29 => ?_) (fun c29 => ?_)
      · refine g_aload_n (n := 82) X 0 dX7_read_81 rfl rfl rfl ?_
        refine gg_7_2 (n := 85) (z := v28) X (by decide) (gsz hsz (by decide)) lay_159 kw_2_213 dX7_read_82 rfl hv28 ?_
        exact hq _ _ _ _ dX7_read_85 ⟨by omega, IM9, CM9, (gFr.c (gFr.s (gFr.s (gFr.s gFr.rf e3 rc_159_0.2.2 rfl) e5 rc_159_1.2.2 rfl) e7 rc_159_2.2.2 rfl) FM9 rfl), ⟨(by rw [hv1, hA]; rw [show (8 - v8).toNat = 0 by omega]; rfl), h69, (fun q hq hn => ⟨(hO9 q hq hn).1, fun k => ((hO9 q hq hn).2 k)⟩), (fun g => by exfalso; omega)⟩⟩
      · refine g_aload_n (n := 30) X 0 dX7_read_29 rfl rfl rfl ?_
        refine g_aload_n (n := 31) X 1 dX7_read_30 rfl rfl rfl ?_
        refine g_callVi (n := 34) (As := [gA n0 oa]) (rest := []) (cs1 := 0) (ss1 := 0) X (e_X7_readClause oa r_oa hsz IM9 CM9 ((gFr.at FM9 rc_159_0.2.2 rfl).trans ((congrFun (congrFun e7 _) _).trans ((gset_ne (by omega)).trans ((congrFun (congrFun e5 _) _).trans ((gset_ne (by omega)).trans ((congrFun (congrFun e3 _) _).trans (gset_eq _ _ _ _))))))) T hTc (fun k hk => by rw [hS9 k (by omega) (by omega)]; have := gSy_b (T := T) hk v8.toNat; omega)) okX7_readClause kw_3_214 ⟨kw_3_216, kw_0_7⟩ ⟨rfl, rfl⟩ ⟨Nat.le_of_ble_eq_true rfl, Nat.le_of_ble_eq_true rfl⟩ rfl (by decide) (gsz hsz (by decide)) lay_159 rfl rfl (Nat.le_of_ble_eq_true rfl) ⟨Nat.le_of_ble_eq_true rfl, Nat.le_of_ble_eq_true rfl⟩ rfl rfl dX7_read_31 rfl (fun v30 M31 P32 => ?_)
        obtain ⟨rv30, IM31, CM31, FM31, xM31⟩ := P32
        rw [show M9 159 2 = v28 from hv28] at xM31
        obtain ⟨v33, hv33, rv33⟩ := gRd IM31 (by decide) (gsz hsz (by decide)) rc_159_2.1
        rw [hv33] at xM31
        refine g_if_ne (n := 37) (tgt := 42) X dX7_read_34 (by decide) (by omega) rfl (fun c34 => ?_) (fun c34 => ?_)
        · refine g_aload_n (n := 43) X 0 dX7_read_42 rfl rfl rfl ?_
          refine gg_7_2 (n := 46) (z := v33) X (by decide) (gsz hsz (by decide)) lay_159 kw_2_213 dX7_read_43 rfl hv33 ?_
          refine g_aload_n (n := 47) X 0 dX7_read_46 rfl rfl rfl ?_
          refine gg_7_1 (n := 50) (z := v1) X (by decide) (gsz hsz (by decide)) lay_159 kw_2_212 dX7_read_47 rfl ((gFr.at FM31 rc_159_1.2.2 rfl).trans ((gFr.at FM9 rc_159_1.2.2 rfl).trans ((congrFun (congrFun e7 _) _).trans ((gset_ne (by omega)).trans ((congrFun (congrFun e5 _) _).trans (gset_eq _ _ _ _)))))) ?_
          refine g_icmp_ne (n := 53) (tgt := 55) X dX7_read_50 (by decide) (by omega) (by omega) rfl (fun c35 => ?_) (fun c35 => ?_)
          · refine g_iload_n (n := 56) X 2 dX7_read_55 rfl rfl rfl ?_
            refine g_bipush (n := 58) X dX7_read_56 (by decide +kernel) rfl ?_
            refine g_icmp_eq (n := 61) (tgt := 70) X dX7_read_58 (by decide) (by omega) (by omega) rfl (fun c36 => ?_) (fun c36 => ?_)
            · refine g_aload_n (n := 71) X 0 dX7_read_70 rfl rfl rfl ?_
              refine gg_7_2 (n := 74) (z := v33) X (by decide) (gsz hsz (by decide)) lay_159 kw_2_213 dX7_read_71 rfl hv33 ?_
              exact hq _ _ _ _ dX7_read_74 ⟨by omega, IM31, CM31, (gFr.c (gFr.c (gFr.s (gFr.s (gFr.s gFr.rf e3 rc_159_0.2.2 rfl) e5 rc_159_1.2.2 rfl) e7 rc_159_2.2.2 rfl) FM9 rfl) FM31 rfl), ⟨(by rw [hv1, hA]; rw [show (8 - v8).toNat = (7 - v8).toNat + 1 by omega]; have y := xM31.1; first | (exact (gAct_bad (q := v33) (by omega) (by omega)).symm) | (exact (gAct_end (q := v33) (by omega) (by omega) (by omega)).symm) | (exact (gAct_no (q := v33) (by omega) (by omega) (by omega) (Or.inl (by omega))).symm) | (exfalso; omega)), (xM31.2.2.2.1.trans h69), (fun q hq hn => ⟨((xM31.2.2.2.2 q hq hn).1.trans (hO9 q hq hn).1), fun k => (((xM31.2.2.2.2 q hq hn).2 k).trans ((hO9 q hq hn).2 k))⟩), (fun g => by exfalso; omega)⟩⟩
            · refine g_aload_n (n := 62) X 0 dX7_read_61 rfl rfl rfl ?_
              refine g_bipush (n := 64) X dX7_read_62 (by decide +kernel) rfl ?_
              refine g_callVi (n := 67) (As := [gJ 59]) (rest := []) (cs1 := 0) (ss1 := 0) X (e_X7_skip 59 (by omega) oa r_oa hsz IM31 CM31 ((gFr.at FM31 rc_159_0.2.2 rfl).trans ((gFr.at FM9 rc_159_0.2.2 rfl).trans ((congrFun (congrFun e7 _) _).trans ((gset_ne (by omega)).trans ((congrFun (congrFun e5 _) _).trans ((gset_ne (by omega)).trans ((congrFun (congrFun e3 _) _).trans (gset_eq _ _ _ _)))))))) T (gTc.eq hTc (gFr.at FM31 rc_159_1.2.2 rfl) xM31.2.1)) okX7_skip kw_4_44 ⟨kw_4_46, kw_0_9⟩ ⟨rfl, rfl⟩ ⟨Nat.le_of_ble_eq_true rfl, Nat.le_of_ble_eq_true rfl⟩ rfl (by decide) (gsz hsz (by decide)) lay_159 rfl rfl (Nat.le_of_ble_eq_true rfl) ⟨Nat.le_of_ble_eq_true rfl, Nat.le_of_ble_eq_true rfl⟩ rfl rfl dX7_read_64 rfl (fun v37 M38 P39 => ?_)
              obtain ⟨rv37, IM38, CM38, FM38, xM38⟩ := P39
              rw [show M31 159 2 = v33 from hv33] at xM38
              obtain ⟨v40, hv40, rv40⟩ := gRd IM38 (by decide) (gsz hsz (by decide)) rc_159_2.1
              rw [hv40] at xM38
              refine g_if_ne (n := 70) (tgt := 75) X dX7_read_67 (by decide) (by omega) rfl (fun c41 => ?_) (fun c41 => ?_)
              · refine g_iinc (n := 78) (w := v8 + 1) (L' := [(2, gJ (v8 + 1)), (0, gA n0 159), (1, gA n0 oa)]) X 2 dX7_read_75 rfl rfl (by decide) rfl rfl ?_
                refine g_goto (tgt := 23) X dX7_read_78 (by decide) ?_
                refine G.sub (L' := [(0, gA n0 159), (1, gA n0 oa), (2, gJ (v8 + 1))]) [1, 2, 0] rfl ?_
                exact ih26 (v8 + 1) M38 (by omega) IM38 CM38 (gFr.c (gFr.c (gFr.c gFr.rf FM9 rfl) FM31 rfl) FM38 rfl) (by have y := (xM31.2.2.1 (by omega) (by omega)).1; rw [show M38 oa 7 = M31 oa 7 from gFr.at FM38 (rA_7 r_oa).2.2 rfl]; omega) (fun k k0 k1 => by rw [show (v8 + 1).toNat = v8.toNat + 1 by omega, show M38 (oa + 2) k = M31 (oa + 2) k from gFr.at FM38 (rAA_2 r_oa k).2.2 rfl, (xM31.2.2.1 (by omega) (by omega)).2 k k0 k1, hS9 k k0 k1, hP2]; rfl) (by have ze2 : M38 159 2 = v40 := hv40; have y := xM31.1; rw [ze2, show (v8 + 1).toNat = v8.toNat + 1 by omega]; show v40 = (gCl T (gPl T v8.toNat)).2.2.2 + 1; rw [← hP2]; omega) (fun j hj => by by_cases c9 : j = v8.toNat; (rw [c9, ← hP2]; have y := xM31.1; rw [show (gCl T v28).2.2.2 = v33 by omega]; omega); (exact hT9 j (by omega))) ((gFr.at FM38 (rA_6 r_oa).2.2 rfl).trans (xM31.2.2.2.1.trans h69)) (fun q hq hn => ⟨(gFr.at FM38 (rA_6 hq).2.2 rfl).trans ((xM31.2.2.2.2 q hq hn).1.trans (hO9 q hq hn).1), fun k => (gFr.at FM38 (rAA_2 hq k).2.2 rfl).trans (((xM31.2.2.2.2 q hq hn).2 k).trans ((hO9 q hq hn).2 k))⟩) (gTc.eq (gTc.eq hTc (gFr.at FM31 rc_159_1.2.2 rfl) xM31.2.1) (gFr.at ((gFr.c gFr.rf FM38 rfl) : gFr 536870912 M31 M38) rc_159_1.2.2 rfl) (fun b => gFr.at ((gFr.c gFr.rf FM38 rfl) : gFr 536870912 M31 M38) (rAA_1 r_oa b).2.2 rfl)) (by have ze2 : M38 159 2 = v40 := hv40; have y := xM31.1; rw [hA, show (8 - v8).toNat = (8 - (v8 + 1)).toNat + 1 by omega, gAct_next (q := v33) (by omega) (by omega) (by omega) (by omega) (by omega), show v33 + 1 = M38 159 2 by omega]) (by omega)
              · refine g_aload_n (n := 71) X 0 dX7_read_70 rfl rfl rfl ?_
                refine gg_7_2 (n := 74) (z := v40) X (by decide) (gsz hsz (by decide)) lay_159 kw_2_213 dX7_read_71 rfl hv40 ?_
                exact hq _ _ _ _ dX7_read_74 ⟨by omega, IM38, CM38, (gFr.c (gFr.c (gFr.c (gFr.s (gFr.s (gFr.s gFr.rf e3 rc_159_0.2.2 rfl) e5 rc_159_1.2.2 rfl) e7 rc_159_2.2.2 rfl) FM9 rfl) FM31 rfl) FM38 rfl), ⟨(by rw [hv1, hA]; rw [show (8 - v8).toNat = (7 - v8).toNat + 1 by omega]; have y := xM31.1; first | (rw [show v40 = v33 by omega]; exact (gAct_no (q := v33) (by omega) (by omega) (by omega) (Or.inr (by omega))).symm) | (exfalso; omega)), ((gFr.at FM38 (rA_6 r_oa).2.2 rfl).trans (xM31.2.2.2.1.trans h69)), (fun q hq hn => ⟨((gFr.at FM38 (rA_6 hq).2.2 rfl).trans ((xM31.2.2.2.2 q hq hn).1.trans (hO9 q hq hn).1)), fun k => ((gFr.at FM38 (rAA_2 hq k).2.2 rfl).trans (((xM31.2.2.2.2 q hq hn).2 k).trans ((hO9 q hq hn).2 k)))⟩), (fun g => by exfalso; omega)⟩⟩
          · refine g_iconst (n := 54) X dX7_read_53 rfl ?_
            exact hq _ _ _ _ dX7_read_54 ⟨by omega, IM31, CM31, (gFr.c (gFr.c (gFr.s (gFr.s (gFr.s gFr.rf e3 rc_159_0.2.2 rfl) e5 rc_159_1.2.2 rfl) e7 rc_159_2.2.2 rfl) FM9 rfl) FM31 rfl), ⟨(by rw [hv1, hA]; rw [show (8 - v8).toNat = (7 - v8).toNat + 1 by omega]; have y := xM31.1; first | (exact (gAct_bad (q := v33) (by omega) (by omega)).symm) | (exact (gAct_end (q := v33) (by omega) (by omega) (by omega)).symm) | (exact (gAct_no (q := v33) (by omega) (by omega) (by omega) (Or.inl (by omega))).symm) | (exfalso; omega)), (xM31.2.2.2.1.trans h69), (fun q hq hn => ⟨((xM31.2.2.2.2 q hq hn).1.trans (hO9 q hq hn).1), fun k => (((xM31.2.2.2.2 q hq hn).2 k).trans ((hO9 q hq hn).2 k))⟩), (fun _ => ⟨v8.toNat + 1, by omega, ⟨by omega, fun j hj => hT9 j (by omega), (by have y := xM31.1; rw [hv1]; show (gCl T (gPl T v8.toNat)).2.2.2 = _; rw [← hP2]; omega)⟩, fun k k0 k1 => (by rw [(xM31.2.2.1 (by omega) (by omega)).2 k k0 k1, hS9 k k0 k1, hP2]; rfl)⟩)⟩⟩
        · refine g_aload_n (n := 38) X 0 dX7_read_37 rfl rfl rfl ?_
          refine gg_7_2 (n := 41) (z := v33) X (by decide) (gsz hsz (by decide)) lay_159 kw_2_213 dX7_read_38 rfl hv33 ?_
          exact hq _ _ _ _ dX7_read_41 ⟨by omega, IM31, CM31, (gFr.c (gFr.c (gFr.s (gFr.s (gFr.s gFr.rf e3 rc_159_0.2.2 rfl) e5 rc_159_1.2.2 rfl) e7 rc_159_2.2.2 rfl) FM9 rfl) FM31 rfl), ⟨(by rw [hv1, hA]; rw [show (8 - v8).toNat = (7 - v8).toNat + 1 by omega]; have y := xM31.1; first | (exact (gAct_bad (q := v33) (by omega) (by omega)).symm) | (exact (gAct_end (q := v33) (by omega) (by omega) (by omega)).symm) | (exact (gAct_no (q := v33) (by omega) (by omega) (by omega) (Or.inl (by omega))).symm) | (exfalso; omega)), (xM31.2.2.2.1.trans h69), (fun q hq hn => ⟨((xM31.2.2.2.2 q hq hn).1.trans (hO9 q hq hn).1), fun k => (((xM31.2.2.2.2 q hq hn).2 k).trans ((hO9 q hq hn).2 k))⟩), (fun g => by exfalso; omega)⟩⟩
  refine G.sub (L' := [(0, gA n0 159), (1, gA n0 oa), (2, gJ 0)]) [1, 2, 0] rfl ?_
  exact j10 _ 0 M6 (by omega) IM6 CM6 gFr.rf (((congrFun (congrFun e7 _) _).trans ((gset_ne (by omega)).trans ((congrFun (congrFun e5 _) _).trans ((gset_ne (by omega)).trans ((congrFun (congrFun e3 _) _).trans ((gset_ne (by omega)).trans rfl)))))).trans h70) (fun k k0 k1 => (((congrFun (congrFun e7 _) _).trans ((gset_ne (by omega)).trans ((congrFun (congrFun e5 _) _).trans ((gset_ne (by omega)).trans ((congrFun (congrFun e3 _) _).trans ((gset_ne (by omega)).trans rfl))))))).trans (hs0 k k0 (by omega))) (((congrFun (congrFun e7 _) _).trans (gset_eq _ _ _ _))) (fun j hj => by exfalso; omega) (((congrFun (congrFun e7 _) _).trans ((gset_ne (by omega)).trans ((congrFun (congrFun e5 _) _).trans ((gset_ne (by omega)).trans ((congrFun (congrFun e3 _) _).trans ((gset_ne (by omega)).trans rfl))))))) (fun q hq hn => ⟨((congrFun (congrFun e7 _) _).trans ((gset_ne (by omega)).trans ((congrFun (congrFun e5 _) _).trans ((gset_ne (by omega)).trans ((congrFun (congrFun e3 _) _).trans ((gset_ne (by omega)).trans rfl)))))), fun k => ((congrFun (congrFun e7 _) _).trans ((gset_ne (by omega)).trans ((congrFun (congrFun e5 _) _).trans ((gset_ne (by omega)).trans ((congrFun (congrFun e3 _) _).trans ((gset_ne (by omega)).trans rfl))))))⟩) (gTc.eq (gTc_of hTa hv1 (show M4 159 1 = v1 from ((congrFun (congrFun e5 _) _).trans (gset_eq _ _ _ _))) (fun b => ((congrFun (congrFun e5 _) _).trans ((gset_ne (by omega)).trans ((congrFun (congrFun e3 _) _).trans ((gset_ne (by omega)).trans rfl)))))) ((congrFun (congrFun e7 _) _).trans (gset_ne (by omega))) (fun b => (congrFun (congrFun e7 _) _).trans (gset_ne (by omega)))) (by rw [show M6 159 2 = 0 from ((congrFun (congrFun e7 _) _).trans (gset_eq _ _ _ _))]; rfl) (Nat.lt_succ_self _)
