theorem dX8_begin_0 : decode cX8_begin 0 = .ok (.aload_n 0, 1) := dc_42 (by decide +kernel)
theorem dX8_begin_1 : decode cX8_begin 1 = .ok (.iload_n 1, 1) := dc_27 (by decide +kernel)
theorem dX8_begin_2 : decode cX8_begin 2 = .ok (.putfield 9, 3) := dc_181 0 9 (by decide +kernel)
theorem kw_2_24 : (Jvm.Cond.fieldLink "ParishUnion$Right" (9 : Nat) "ParishUnion$Right" "kind" "I") ∈ gT := gT_of (tb_2 _ (List.mem_of_getElem? (i := 24) rfl)) rfl
theorem dX8_begin_5 : decode cX8_begin 5 = .ok (.aload_n 0, 1) := dc_42 (by decide +kernel)
theorem dX8_begin_6 : decode cX8_begin 6 = .ok (.iload_n 2, 1) := dc_28 (by decide +kernel)
theorem dX8_begin_7 : decode cX8_begin 7 = .ok (.putfield 15, 3) := dc_181 0 15 (by decide +kernel)
theorem kw_2_27 : (Jvm.Cond.fieldLink "ParishUnion$Right" (15 : Nat) "ParishUnion$Right" "person" "I") ∈ gT := gT_of (tb_2 _ (List.mem_of_getElem? (i := 27) rfl)) rfl
theorem dX8_begin_10 : decode cX8_begin 10 = .ok (.aload_n 0, 1) := dc_42 (by decide +kernel)
theorem dX8_begin_11 : decode cX8_begin 11 = .ok (.iload_n 3, 1) := dc_29 (by decide +kernel)
theorem dX8_begin_12 : decode cX8_begin 12 = .ok (.putfield 18, 3) := dc_181 0 18 (by decide +kernel)
theorem kw_2_30 : (Jvm.Cond.fieldLink "ParishUnion$Right" (18 : Nat) "ParishUnion$Right" "place" "I") ∈ gT := gT_of (tb_2 _ (List.mem_of_getElem? (i := 30) rfl)) rfl
theorem dX8_begin_15 : decode cX8_begin 15 = .ok (.aload_n 0, 1) := dc_42 (by decide +kernel)
theorem dX8_begin_16 : decode cX8_begin 16 = .ok (.iload 4, 2) := dc_21 4 (by decide +kernel)
theorem dX8_begin_18 : decode cX8_begin 18 = .ok (.putfield 21, 3) := dc_181 0 21 (by decide +kernel)
theorem kw_2_33 : (Jvm.Cond.fieldLink "ParishUnion$Right" (21 : Nat) "ParishUnion$Right" "n" "I") ∈ gT := gT_of (tb_2 _ (List.mem_of_getElem? (i := 33) rfl)) rfl
theorem dX8_begin_21 : decode cX8_begin 21 = .ok (.aload_n 0, 1) := dc_42 (by decide +kernel)
theorem dX8_begin_22 : decode cX8_begin 22 = .ok (.iload 5, 2) := dc_21 5 (by decide +kernel)
theorem dX8_begin_24 : decode cX8_begin 24 = .ok (.putfield 24, 3) := dc_181 0 24 (by decide +kernel)
theorem kw_2_35 : (Jvm.Cond.fieldLink "ParishUnion$Right" (24 : Nat) "ParishUnion$Right" "week" "I") ∈ gT := gT_of (tb_2 _ (List.mem_of_getElem? (i := 35) rfl)) rfl
theorem dX8_begin_27 : decode cX8_begin 27 = .ok (.aload_n 0, 1) := dc_42 (by decide +kernel)
theorem dX8_begin_28 : decode cX8_begin 28 = .ok (.iconst (-1), 1) := dc_2 (by decide +kernel)
theorem dX8_begin_29 : decode cX8_begin 29 = .ok (.putfield 27, 3) := dc_181 0 27 (by decide +kernel)
theorem kw_2_43 : (Jvm.Cond.fieldLink "ParishUnion$Right" (27 : Nat) "ParishUnion$Right" "proofEntry" "I") ∈ gT := gT_of (tb_2 _ (List.mem_of_getElem? (i := 43) rfl)) rfl
theorem dX8_begin_32 : decode cX8_begin 32 = .ok (.aload_n 0, 1) := dc_42 (by decide +kernel)
theorem dX8_begin_33 : decode cX8_begin 33 = .ok (.iconst 0, 1) := dc_3 (by decide +kernel)
theorem dX8_begin_34 : decode cX8_begin 34 = .ok (.putfield 30, 3) := dc_181 0 30 (by decide +kernel)
theorem kw_2_45 : (Jvm.Cond.fieldLink "ParishUnion$Right" (30 : Nat) "ParishUnion$Right" "proved" "Z") ∈ gT := gT_of (tb_2 _ (List.mem_of_getElem? (i := 45) rfl)) rfl
theorem dX8_begin_37 : decode cX8_begin 37 = .ok (.return_, 1) := dc_177 (by decide +kernel)
abbrev R_X8_begin : Room := { frames := 0, cells := 0, slots := 0, locals := 0 }
set_option maxRecDepth 100000 in
set_option maxHeartbeats 4000000 in
theorem s_X8_begin {l : Launch} {n0 : Nat} {D : va_G} {cA : Nat → ClassId} {M : gM} (o : Int) (r_o : 47 ≤ o ∧ o < 87) (a : Int) (r_a : 0 ≤ a ∧ a ≤ 4) (b : Int) (r_b : 0 ≤ b ∧ b ≤ 15) (c : Int) (r_c : 0 ≤ c ∧ c ≤ 15) (d : Int) (r_d : 0 ≤ d ∧ d ≤ 9999) (f : Int) (r_f : -3000 ≤ f ∧ f ≤ 300) {sz : Nat} (hsz : 206 ≤ sz) (I : gI sz M) (C : gC sz M) (hk : a = 3 ∨ c ≤ 5)  : Met l yX8_begin (gWsOf yX8_begin cX8_begin 6 (Option.none : Option Jvm.ClassFile.FieldType)) R_X8_begin (gPc n0 D cA [gA n0 o, gJ a, gJ b, gJ c, gJ d, gJ f] M sz) (gQv n0 D cA sz (fun Mz => ∃ M1 : gM, M1 = gset M o 0 a ∧ ∃ M3 : gM, M3 = gset M1 o 1 b ∧ ∃ M5 : gM, M5 = gset M3 o 2 c ∧ ∃ M7 : gM, M7 = gset M5 o 3 d ∧ ∃ M9 : gM, M9 = gset M7 o 4 f ∧ ∃ M11 : gM, M11 = gset M9 o 7 (-1) ∧ ∃ M13 : gM, M13 = gset M11 o 8 0 ∧ M13 = Mz)) 0 0 (fun q => n0 ≤ q) := by
  refine gMetV [gA n0 o, gJ a, gJ b, gJ c, gJ d, gJ f] (by decide) (Nat.le_of_ble_eq_true rfl) ⟨rfl, rfl⟩ ?_
  intro p e s m args below meth cd Q X hq
  have X : gCx p s m args meth cd n0 D cA "ParishUnion$Right" cX8_begin 6 := X
  show G p l e R_X8_begin s m args below meth cd n0 D cA 6 Q 0 0 M sz 0 [(0, gA n0 o), (1, gJ a), (2, gJ b), (3, gJ c), (4, gJ d), (5, gJ f)] []
  refine g_aload_n (n := 1) X 0 dX8_begin_0 rfl rfl rfl ?_
  refine g_iload_n (n := 2) X 1 dX8_begin_1 rfl rfl rfl ?_
  refine gp_8_0 (n := 5) X (Rto0 r_o) (Rtosz hsz r_o) (lay2_R r_o) kw_2_24 dX8_begin_2 rfl ?_
  refine G.nm (fun M1 e2 => ?_)
  have IM1 : gI sz M1 := gI.set I (rR_0 r_o).1 (by omega) e2
  refine g_aload_n (n := 6) X 0 dX8_begin_5 rfl rfl rfl ?_
  refine g_iload_n (n := 7) X 2 dX8_begin_6 rfl rfl rfl ?_
  refine gp_8_1 (n := 10) X (Rto0 r_o) (Rtosz hsz r_o) (lay2_R r_o) kw_2_27 dX8_begin_7 rfl ?_
  refine G.nm (fun M3 e4 => ?_)
  have IM3 : gI sz M3 := gI.set IM1 (rR_1 r_o).1 (by omega) e4
  refine g_aload_n (n := 11) X 0 dX8_begin_10 rfl rfl rfl ?_
  refine g_iload_n (n := 12) X 3 dX8_begin_11 rfl rfl rfl ?_
  refine gp_8_2 (n := 15) X (Rto0 r_o) (Rtosz hsz r_o) (lay2_R r_o) kw_2_30 dX8_begin_12 rfl ?_
  refine G.nm (fun M5 e6 => ?_)
  have IM5 : gI sz M5 := gI.set IM3 (rR_2 r_o).1 (by omega) e6
  refine g_aload_n (n := 16) X 0 dX8_begin_15 rfl rfl rfl ?_
  refine g_iload (n := 18) X 4 dX8_begin_16 rfl rfl ?_
  refine gp_8_3 (n := 21) X (Rto0 r_o) (Rtosz hsz r_o) (lay2_R r_o) kw_2_33 dX8_begin_18 rfl ?_
  refine G.nm (fun M7 e8 => ?_)
  have IM7 : gI sz M7 := gI.set IM5 (rR_3 r_o).1 (by omega) e8
  refine g_aload_n (n := 22) X 0 dX8_begin_21 rfl rfl rfl ?_
  refine g_iload (n := 24) X 5 dX8_begin_22 rfl rfl ?_
  refine gp_8_4 (n := 27) X (Rto0 r_o) (Rtosz hsz r_o) (lay2_R r_o) kw_2_35 dX8_begin_24 rfl ?_
  refine G.nm (fun M9 e10 => ?_)
  have IM9 : gI sz M9 := gI.set IM7 (rR_4 r_o).1 (by omega) e10
  refine g_aload_n (n := 28) X 0 dX8_begin_27 rfl rfl rfl ?_
  refine g_iconst (n := 29) X dX8_begin_28 rfl ?_
  refine gp_8_7 (n := 32) X (Rto0 r_o) (Rtosz hsz r_o) (lay2_R r_o) kw_2_43 dX8_begin_29 rfl ?_
  refine G.nm (fun M11 e12 => ?_)
  have IM11 : gI sz M11 := gI.set IM9 (rR_7 r_o).1 (by omega) e12
  refine g_aload_n (n := 33) X 0 dX8_begin_32 rfl rfl rfl ?_
  refine g_iconst (n := 34) X dX8_begin_33 rfl ?_
  refine gp_8_8 (n := 37) X (Rto0 r_o) (Rtosz hsz r_o) (lay2_R r_o) kw_2_45 (by omega) dX8_begin_34 rfl ?_
  refine G.nm (fun M13 e14 => ?_)
  have IM13 : gI sz M13 := gI.set IM11 (rR_8 r_o).1 (by omega) e14
  have CM13 : gC sz M13 := gC.right C r_o (fun a b h => ((congrFun (congrFun e14 a) b).trans ((gset_ne (fun q => h q.1)).trans ((congrFun (congrFun e12 a) b).trans ((gset_ne (fun q => h q.1)).trans ((congrFun (congrFun e10 a) b).trans ((gset_ne (fun q => h q.1)).trans ((congrFun (congrFun e8 a) b).trans ((gset_ne (fun q => h q.1)).trans ((congrFun (congrFun e6 a) b).trans ((gset_ne (fun q => h q.1)).trans ((congrFun (congrFun e4 a) b).trans ((gset_ne (fun q => h q.1)).trans ((congrFun (congrFun e2 a) b).trans ((gset_ne (fun q => h q.1)).trans rfl))))))))))))))) (by have q0 : M13 o 0 = a := ((congrFun (congrFun e14 _) _).trans ((gset_ne (by omega)).trans ((congrFun (congrFun e12 _) _).trans ((gset_ne (by omega)).trans ((congrFun (congrFun e10 _) _).trans ((gset_ne (by omega)).trans ((congrFun (congrFun e8 _) _).trans ((gset_ne (by omega)).trans ((congrFun (congrFun e6 _) _).trans ((gset_ne (by omega)).trans ((congrFun (congrFun e4 _) _).trans ((gset_ne (by omega)).trans ((congrFun (congrFun e2 _) _).trans (gset_eq _ _ _ _)))))))))))))); have q2 : M13 o 2 = c := ((congrFun (congrFun e14 _) _).trans ((gset_ne (by omega)).trans ((congrFun (congrFun e12 _) _).trans ((gset_ne (by omega)).trans ((congrFun (congrFun e10 _) _).trans ((gset_ne (by omega)).trans ((congrFun (congrFun e8 _) _).trans ((gset_ne (by omega)).trans ((congrFun (congrFun e6 _) _).trans (gset_eq _ _ _ _)))))))))); omega)
  exact hq _ _ _ dX8_begin_37 ⟨M1, e2, M3, e4, M5, e6, M7, e8, M9, e10, M11, e12, M13, e14, rfl⟩
def pSameX (M M1 : gM) : Prop := M1 1 11 = M 1 11 ∧ M1 1 12 = M 1 12 ∧ (∀ r k : Int, 0 ≤ r → r < 40 → 0 ≤ k → k ≤ 8 → M1 (47 + r) k = M (47 + r) k)
def pTellX (a b c d f g z : Int) (M M1 : gM) : Prop := ((M 1 11 = 40 ∨ M 1 12 = 80) ∧ z = -4 ∧ pSameX M M1) ∨ (((M 1 11 < 40 ∧ M 1 12 < 80) ∧ z = M 1 11) ∧ (M1 1 11 = M 1 11 + 1 ∧ M1 1 12 = M 1 12 + 1) ∧ (∀ r k : Int, 0 ≤ r → r < 40 → 0 ≤ k → k ≤ 8 → ¬ r = M 1 11 → M1 (47 + r) k = M (47 + r) k) ∧ M1 (47 + M 1 11) 0 = a ∧ M1 (47 + M 1 11) 1 = b ∧ M1 (47 + M 1 11) 2 = c ∧ M1 (47 + M 1 11) 3 = d ∧ M1 (47 + M 1 11) 4 = f ∧ M1 (47 + M 1 11) 5 = g ∧ M1 (47 + M 1 11) 6 = M 1 12 ∧ M1 (47 + M 1 11) 7 = -1 ∧ M1 (47 + M 1 11) 8 = 0)
def pSameM (M M1 : gM) : Prop := M1 191 2 = M 191 2 ∧ M1 191 3 = M 191 3 ∧ (∀ k : Int, 256 ≤ k → k < 656 → M1 191 k = M 191 k)
def pTellM (a b c d f g z : Int) (M M1 : gM) : Prop := ((M 191 2 = 40 ∨ M 191 3 = 80) ∧ z = -4 ∧ pSameM M M1) ∨ (((M 191 2 < 40 ∧ M 191 3 < 80) ∧ z = M 191 2) ∧ (M1 191 2 = M 191 2 + 1 ∧ M1 191 3 = M 191 3 + 1) ∧ (∀ k : Int, 256 ≤ k → k < 656 → ¬ k = M 191 2 + 256 → ¬ k = M 191 2 + 296 → ¬ k = M 191 2 + 336 → ¬ k = M 191 2 + 376 → ¬ k = M 191 2 + 416 → ¬ k = M 191 2 + 456 → ¬ k = M 191 3 + 496 → ¬ k = M 191 3 + 576 → M1 191 k = M 191 k) ∧ M1 191 (M 191 2 + 256) = a ∧ M1 191 (M 191 2 + 296) = b ∧ M1 191 (M 191 2 + 336) = c ∧ M1 191 (M 191 2 + 376) = d ∧ M1 191 (M 191 2 + 416) = f ∧ M1 191 (M 191 2 + 456) = g ∧ M1 191 (M 191 3 + 496) = 0 ∧ M1 191 (M 191 3 + 576) = M 191 2)
theorem pSameX.rf {M : gM} : pSameX M M := ⟨rfl, rfl, fun _ _ _ _ _ _ => rfl⟩
theorem pSameM.rf {M : gM} : pSameM M M := ⟨rfl, rfl, fun _ _ _ => rfl⟩
def pSt (b a i : Int) (M : gM) : Prop := (b = 1 ∧ M 191 (a + 456) = 1) ∨ ∃ j : Int, (0 ≤ j ∧ j < i) ∧ ¬ M 191 (j + 496) = 0 ∧ M 191 (j + 576) = a
theorem pSt.s1 {b a i : Int} {M : gM} (h : pSt b a i M) : pSt b a (i + 1) M := h.elim Or.inl (fun ⟨j, h1, h2⟩ => Or.inr ⟨j, ⟨h1.1, by omega⟩, h2⟩)
theorem pSt.s2 {b a i : Int} {M : gM} (h0 : 0 ≤ i) (h1 : ¬ M 191 (i + 496) = 0) (h2 : M 191 (i + 576) = a) : pSt b a (i + 1) M := Or.inr ⟨i, ⟨h0, by omega⟩, h1, h2⟩
theorem pSt.s3 {b a i : Int} {M : gM} (h : ¬ pSt b a i M) (h2 : M 191 (i + 496) = 0 ∨ ¬ M 191 (i + 576) = a) : ¬ pSt b a (i + 1) M := by
  intro q
  rcases q with q | ⟨j, hj, h3, h4⟩
  · exact h (Or.inl q)
  · by_cases g : j = i
    · subst g; exact h2.elim (fun z => h3 z) (fun z => z h4)
    · exact h (Or.inr ⟨j, ⟨hj.1, by omega⟩, h3, h4⟩)
theorem pSt.z1 {b a : Int} {M : gM} (h : b = 1 ∧ M 191 (a + 456) = 1) : pSt b a 0 M := Or.inl h
theorem pSt.z0 {b a : Int} {M : gM} (h : ¬ (b = 1 ∧ M 191 (a + 456) = 1)) : ¬ pSt b a 0 M := fun q => q.elim h (fun ⟨j, hj, _⟩ => by omega)
def pHeld (t p so sure e z : Int) : Prop := (e ≤ t ∧ z = 3) ∨ (t < e ∧ ((¬ p = -1 ∧ p < e ∧ ((so = 1 ∧ z = 1) ∨ (so = 0 ∧ z = 2))) ∨ ((p = -1 ∨ e ≤ p) ∧ z = sure)))
def pKn (M : gM) (r n z : Int) : Prop := (z = -1 ∧ ∀ j : Int, 0 ≤ j → j < n → ¬ M 191 (j + 576) = r) ∨ ∃ i : Int, (0 ≤ i ∧ i < n) ∧ M 191 (i + 576) = r ∧ (∀ j : Int, i < j → j < n → ¬ M 191 (j + 576) = r) ∧ ((M 191 (i + 496) = 0 ∧ z = M 191 (r + 456)) ∨ (¬ M 191 (i + 496) = 0 ∧ z = M 191 (i + 496)))
theorem pKn.z {M : gM} {r z : Int} (h : z = -1) : pKn M r 0 z := Or.inl ⟨h, fun j h0 h1 => by omega⟩
theorem pKn.o {M : gM} {r n z z2 : Int} (h : pKn M r n z) (hr : ¬ M 191 (n + 576) = r) (e : z2 = z) : pKn M r (n + 1) z2 := by
  subst e
  rcases h with ⟨h, q⟩ | ⟨i, hi, h1, h2, h3⟩
  · refine Or.inl ⟨h, fun j h0 h1 => ?_⟩
    by_cases g : j = n
    · rw [g]; exact hr
    · exact q j h0 (by omega)
  · refine Or.inr ⟨i, ⟨hi.1, by omega⟩, h1, fun j g0 g1 => ?_, h3⟩
    by_cases g : j = n
    · rw [g]; exact hr
    · exact h2 j g0 (by omega)
theorem pKn.t {M : gM} {r n z : Int} (h0 : 0 ≤ n) (hr : M 191 (n + 576) = r) (h : (M 191 (n + 496) = 0 ∧ z = M 191 (r + 456)) ∨ (¬ M 191 (n + 496) = 0 ∧ z = M 191 (n + 496))) : pKn M r (n + 1) z := Or.inr ⟨n, ⟨h0, by omega⟩, hr, fun j g0 g1 => by omega, h⟩
theorem dX8_heldBy_0 : decode cX8_heldBy 0 = .ok (.aload_n 0, 1) := dc_42 (by decide +kernel)
theorem dX8_heldBy_1 : decode cX8_heldBy 1 = .ok (.getfield 41, 3) := dc_180 0 41 (by decide +kernel)
theorem kw_2_41 : (Jvm.Cond.fieldLink "ParishUnion$Right" (41 : Nat) "ParishUnion$Right" "toldEntry" "I") ∈ gT := gT_of (tb_2 _ (List.mem_of_getElem? (i := 41) rfl)) rfl
theorem dX8_heldBy_4 : decode cX8_heldBy 4 = .ok (.iload_n 1, 1) := dc_27 (by decide +kernel)
theorem dX8_heldBy_5 : decode cX8_heldBy 5 = .ok (.if_icmp .lt 5, 3) := dc_161 0 5 5 (by decide +kernel)
theorem dX8_heldBy_10 : decode cX8_heldBy 10 = .ok (.aload_n 0, 1) := dc_42 (by decide +kernel)
theorem dX8_heldBy_11 : decode cX8_heldBy 11 = .ok (.getfield 27, 3) := dc_180 0 27 (by decide +kernel)
theorem dX8_heldBy_14 : decode cX8_heldBy 14 = .ok (.iconst (-1), 1) := dc_2 (by decide +kernel)
theorem dX8_heldBy_15 : decode cX8_heldBy 15 = .ok (.if_icmp .eq 24, 3) := dc_159 0 24 24 (by decide +kernel)
theorem dX8_heldBy_39 : decode cX8_heldBy 39 = .ok (.aload_n 0, 1) := dc_42 (by decide +kernel)
theorem dX8_heldBy_40 : decode cX8_heldBy 40 = .ok (.getfield 38, 3) := dc_180 0 38 (by decide +kernel)
theorem kw_2_38 : (Jvm.Cond.fieldLink "ParishUnion$Right" (38 : Nat) "ParishUnion$Right" "sure" "Z") ∈ gT := gT_of (tb_2 _ (List.mem_of_getElem? (i := 38) rfl)) rfl
theorem dX8_heldBy_43 : decode cX8_heldBy 43 = .ok (.ifCond .eq 7, 3) := dc_153 0 7 7 (by decide +kernel)
theorem dX8_heldBy_50 : decode cX8_heldBy 50 = .ok (.iconst 0, 1) := dc_3 (by decide +kernel)
theorem dX8_heldBy_51 : decode cX8_heldBy 51 = .ok (.ireturn, 1) := dc_172 (by decide +kernel)
theorem dX8_heldBy_46 : decode cX8_heldBy 46 = .ok (.iconst 1, 1) := dc_4 (by decide +kernel)
theorem dX8_heldBy_47 : decode cX8_heldBy 47 = .ok (.goto 4, 3) := dc_167 0 4 4 (by decide +kernel)
theorem dX8_heldBy_18 : decode cX8_heldBy 18 = .ok (.aload_n 0, 1) := dc_42 (by decide +kernel)
theorem dX8_heldBy_19 : decode cX8_heldBy 19 = .ok (.getfield 27, 3) := dc_180 0 27 (by decide +kernel)
theorem dX8_heldBy_22 : decode cX8_heldBy 22 = .ok (.iload_n 1, 1) := dc_27 (by decide +kernel)
theorem dX8_heldBy_23 : decode cX8_heldBy 23 = .ok (.if_icmp .ge 16, 3) := dc_162 0 16 16 (by decide +kernel)
theorem dX8_heldBy_26 : decode cX8_heldBy 26 = .ok (.aload_n 0, 1) := dc_42 (by decide +kernel)
theorem dX8_heldBy_27 : decode cX8_heldBy 27 = .ok (.getfield 30, 3) := dc_180 0 30 (by decide +kernel)
theorem dX8_heldBy_30 : decode cX8_heldBy 30 = .ok (.ifCond .eq 7, 3) := dc_153 0 7 7 (by decide +kernel)
theorem dX8_heldBy_37 : decode cX8_heldBy 37 = .ok (.iconst 2, 1) := dc_5 (by decide +kernel)
theorem dX8_heldBy_38 : decode cX8_heldBy 38 = .ok (.ireturn, 1) := dc_172 (by decide +kernel)
theorem dX8_heldBy_33 : decode cX8_heldBy 33 = .ok (.iconst 1, 1) := dc_4 (by decide +kernel)
theorem dX8_heldBy_34 : decode cX8_heldBy 34 = .ok (.goto 4, 3) := dc_167 0 4 4 (by decide +kernel)
theorem dX8_heldBy_8 : decode cX8_heldBy 8 = .ok (.iconst 3, 1) := dc_6 (by decide +kernel)
theorem dX8_heldBy_9 : decode cX8_heldBy 9 = .ok (.ireturn, 1) := dc_172 (by decide +kernel)
abbrev R_X8_heldBy : Room := { frames := 0, cells := 0, slots := 0, locals := 0 }
set_option maxRecDepth 100000 in
set_option maxHeartbeats 4000000 in
theorem s_X8_heldBy {l : Launch} {n0 : Nat} {D : va_G} {cA : Nat → ClassId} {M : gM} (o : Int) (r_o : 47 ≤ o ∧ o < 87) (a : Int) (r_a : -1 ≤ a ∧ a ≤ 80) {sz : Nat} (hsz : 206 ≤ sz) (I : gI sz M) (C : gC sz M)   : Met l yX8_heldBy (gWsOf yX8_heldBy cX8_heldBy 2 (Option.some Jvm.ClassFile.FieldType.int)) R_X8_heldBy (gPc n0 D cA [gA n0 o, gJ a] M sz) (gQi n0 D cA sz (fun z M1 => M = M1 ∧ (0 ≤ z ∧ z ≤ 3) ∧ (pHeld (M o 6) (M o 7) (M o 8) (M o 5) a z))) 0 0 (fun q => n0 ≤ q) := by
  refine gMetI [gA n0 o, gJ a] (by decide) (Nat.le_of_ble_eq_true rfl) ⟨rfl, rfl⟩ ?_
  intro p e s m args below meth cd Q X hq
  have X : gCx p s m args meth cd n0 D cA "ParishUnion$Right" cX8_heldBy 2 := X
  show G p l e R_X8_heldBy s m args below meth cd n0 D cA 2 Q 0 0 M sz 0 [(0, gA n0 o), (1, gJ a)] []
  refine g_aload_n (n := 1) X 0 dX8_heldBy_0 rfl rfl rfl ?_
  obtain ⟨v1, hv1, rv1⟩ := gRd I (Rto0 r_o) (Rtosz hsz r_o) (rR_6 r_o).1
  refine gg_8_6 (n := 4) (z := v1) X (Rto0 r_o) (Rtosz hsz r_o) (lay2_R r_o) kw_2_41 dX8_heldBy_1 rfl hv1 ?_
  refine g_iload_n (n := 5) X 1 dX8_heldBy_4 rfl rfl rfl ?_
  refine g_icmp_lt (n := 8) (tgt := 10) X dX8_heldBy_5 (by decide) (by omega) (by omega) rfl (fun c2 => ?_) (fun c2 => ?_)
  · refine g_aload_n (n := 11) X 0 dX8_heldBy_10 rfl rfl rfl ?_
    obtain ⟨v3, hv3, rv3⟩ := gRd I (Rto0 r_o) (Rtosz hsz r_o) (rR_7 r_o).1
    refine gg_8_7 (n := 14) (z := v3) X (Rto0 r_o) (Rtosz hsz r_o) (lay2_R r_o) kw_2_43 dX8_heldBy_11 rfl hv3 ?_
    refine g_iconst (n := 15) X dX8_heldBy_14 rfl ?_
    refine g_icmp_eq (n := 18) (tgt := 39) X dX8_heldBy_15 (by decide) (by omega) (by omega) rfl (fun c4 => ?_) (fun c4 => ?_)
    · refine g_aload_n (n := 40) X 0 dX8_heldBy_39 rfl rfl rfl ?_
      obtain ⟨v5, hv5, rv5⟩ := gRd I (Rto0 r_o) (Rtosz hsz r_o) (rR_5 r_o).1
      refine gg_8_5 (n := 43) (z := v5) X (Rto0 r_o) (Rtosz hsz r_o) (lay2_R r_o) kw_2_38 dX8_heldBy_40 rfl hv5 ?_
      refine g_if_eq (n := 46) (tgt := 50) X dX8_heldBy_43 (by decide) (by omega) rfl (fun c6 => ?_) (fun c6 => ?_)
      · refine g_iconst (n := 51) X dX8_heldBy_50 rfl ?_
        exact hq _ _ _ _ dX8_heldBy_51 ⟨rfl, by omega, by unfold pHeld; omega⟩
      · refine g_iconst (n := 47) X dX8_heldBy_46 rfl ?_
        refine g_goto (tgt := 51) X dX8_heldBy_47 (by decide) ?_
        exact hq _ _ _ _ dX8_heldBy_51 ⟨rfl, by omega, by unfold pHeld; omega⟩
    · refine g_aload_n (n := 19) X 0 dX8_heldBy_18 rfl rfl rfl ?_
      refine gg_8_7 (n := 22) (z := v3) X (Rto0 r_o) (Rtosz hsz r_o) (lay2_R r_o) kw_2_43 dX8_heldBy_19 rfl hv3 ?_
      refine g_iload_n (n := 23) X 1 dX8_heldBy_22 rfl rfl rfl ?_
      refine g_icmp_ge (n := 26) (tgt := 39) X dX8_heldBy_23 (by decide) (by omega) (by omega) rfl (fun c7 => ?_) (fun c7 => ?_)
      · refine g_aload_n (n := 40) X 0 dX8_heldBy_39 rfl rfl rfl ?_
        obtain ⟨v8, hv8, rv8⟩ := gRd I (Rto0 r_o) (Rtosz hsz r_o) (rR_5 r_o).1
        refine gg_8_5 (n := 43) (z := v8) X (Rto0 r_o) (Rtosz hsz r_o) (lay2_R r_o) kw_2_38 dX8_heldBy_40 rfl hv8 ?_
        refine g_if_eq (n := 46) (tgt := 50) X dX8_heldBy_43 (by decide) (by omega) rfl (fun c9 => ?_) (fun c9 => ?_)
        · refine g_iconst (n := 51) X dX8_heldBy_50 rfl ?_
          exact hq _ _ _ _ dX8_heldBy_51 ⟨rfl, by omega, by unfold pHeld; omega⟩
        · refine g_iconst (n := 47) X dX8_heldBy_46 rfl ?_
          refine g_goto (tgt := 51) X dX8_heldBy_47 (by decide) ?_
          exact hq _ _ _ _ dX8_heldBy_51 ⟨rfl, by omega, by unfold pHeld; omega⟩
      · refine g_aload_n (n := 27) X 0 dX8_heldBy_26 rfl rfl rfl ?_
        obtain ⟨v10, hv10, rv10⟩ := gRd I (Rto0 r_o) (Rtosz hsz r_o) (rR_8 r_o).1
        refine gg_8_8 (n := 30) (z := v10) X (Rto0 r_o) (Rtosz hsz r_o) (lay2_R r_o) kw_2_45 dX8_heldBy_27 rfl hv10 ?_
        refine g_if_eq (n := 33) (tgt := 37) X dX8_heldBy_30 (by decide) (by omega) rfl (fun c11 => ?_) (fun c11 => ?_)
        · refine g_iconst (n := 38) X dX8_heldBy_37 rfl ?_
          exact hq _ _ _ _ dX8_heldBy_38 ⟨rfl, by omega, by unfold pHeld; omega⟩
        · refine g_iconst (n := 34) X dX8_heldBy_33 rfl ?_
          refine g_goto (tgt := 38) X dX8_heldBy_34 (by decide) ?_
          exact hq _ _ _ _ dX8_heldBy_38 ⟨rfl, by omega, by unfold pHeld; omega⟩
  · refine g_iconst (n := 9) X dX8_heldBy_8 rfl ?_
    exact hq _ _ _ _ dX8_heldBy_9 ⟨rfl, by omega, by unfold pHeld; omega⟩
theorem dX8_isUnder_0 : decode cX8_isUnder 0 = .ok (.aload_n 0, 1) := dc_42 (by decide +kernel)
theorem dX8_isUnder_1 : decode cX8_isUnder 1 = .ok (.getfield 9, 3) := dc_180 0 9 (by decide +kernel)
theorem dX8_isUnder_4 : decode cX8_isUnder 4 = .ok (.istore_n 2, 1) := dc_61 (by decide +kernel)
theorem dX8_isUnder_5 : decode cX8_isUnder 5 = .ok (.iconst 0, 1) := dc_3 (by decide +kernel)
theorem dX8_isUnder_6 : decode cX8_isUnder 6 = .ok (.istore_n 3, 1) := dc_62 (by decide +kernel)
theorem dX8_isUnder_7 : decode cX8_isUnder 7 = .ok (.iload_n 3, 1) := dc_29 (by decide +kernel)
theorem dX8_isUnder_8 : decode cX8_isUnder 8 = .ok (.iconst 5, 1) := dc_8 (by decide +kernel)
theorem dX8_isUnder_9 : decode cX8_isUnder 9 = .ok (.if_icmp .ge 27, 3) := dc_162 0 27 27 (by decide +kernel)
theorem dX8_isUnder_36 : decode cX8_isUnder 36 = .ok (.iconst 0, 1) := dc_3 (by decide +kernel)
theorem dX8_isUnder_37 : decode cX8_isUnder 37 = .ok (.ireturn, 1) := dc_172 (by decide +kernel)
theorem dX8_isUnder_12 : decode cX8_isUnder 12 = .ok (.iload_n 2, 1) := dc_28 (by decide +kernel)
theorem dX8_isUnder_13 : decode cX8_isUnder 13 = .ok (.iconst (-1), 1) := dc_2 (by decide +kernel)
theorem dX8_isUnder_14 : decode cX8_isUnder 14 = .ok (.if_icmp .eq 22, 3) := dc_159 0 22 22 (by decide +kernel)
theorem dX8_isUnder_17 : decode cX8_isUnder 17 = .ok (.iload_n 2, 1) := dc_28 (by decide +kernel)
theorem dX8_isUnder_18 : decode cX8_isUnder 18 = .ok (.iload_n 1, 1) := dc_27 (by decide +kernel)
theorem dX8_isUnder_19 : decode cX8_isUnder 19 = .ok (.if_icmp .ne 5, 3) := dc_160 0 5 5 (by decide +kernel)
theorem dX8_isUnder_24 : decode cX8_isUnder 24 = .ok (.getstatic 44, 3) := dc_178 0 44 (by decide +kernel)
theorem dX8_isUnder_27 : decode cX8_isUnder 27 = .ok (.iload_n 2, 1) := dc_28 (by decide +kernel)
theorem dX8_isUnder_28 : decode cX8_isUnder 28 = .ok (.iaload, 1) := dc_46 (by decide +kernel)
theorem dX8_isUnder_29 : decode cX8_isUnder 29 = .ok (.istore_n 2, 1) := dc_61 (by decide +kernel)
theorem dX8_isUnder_30 : decode cX8_isUnder 30 = .ok (.iinc 3 1, 3) := dc_132 3 1 1 (by decide +kernel)
theorem dX8_isUnder_33 : decode cX8_isUnder 33 = .ok (.goto (-26), 3) := dc_167 255 230 (-26) (by decide +kernel)
theorem dX8_isUnder_22 : decode cX8_isUnder 22 = .ok (.iconst 1, 1) := dc_4 (by decide +kernel)
theorem dX8_isUnder_23 : decode cX8_isUnder 23 = .ok (.ireturn, 1) := dc_172 (by decide +kernel)
abbrev R_X8_isUnder : Room := { frames := 0, cells := 0, slots := 0, locals := 0 }
set_option maxRecDepth 100000 in
set_option maxHeartbeats 4000000 in
theorem s_X8_isUnder {l : Launch} {n0 : Nat} {D : va_G} {cA : Nat → ClassId} {M : gM} (o : Int) (r_o : 47 ≤ o ∧ o < 87) (a : Int) (r_a : 0 ≤ a ∧ a ≤ 4) {sz : Nat} (hsz : 206 ≤ sz) (I : gI sz M) (C : gC sz M)   : Met l yX8_isUnder (gWsOf yX8_isUnder cX8_isUnder 4 (Option.some Jvm.ClassFile.FieldType.boolean)) R_X8_isUnder (gPc n0 D cA [gA n0 o, gJ a] M sz) (gQi n0 D cA sz (fun z M1 => M = M1 ∧ (0 ≤ z ∧ z ≤ 1) ∧ (((a = 0 ∨ a = M o 0 ∨ (M o 0 = 4 ∧ a = 1)) ∧ z = 1) ∨ (¬ (a = 0 ∨ a = M o 0 ∨ (M o 0 = 4 ∧ a = 1)) ∧ z = 0)))) 0 0 (fun q => n0 ≤ q) := by
  refine gMetZ [gA n0 o, gJ a] (by decide) (Nat.le_of_ble_eq_true rfl) ⟨rfl, rfl⟩ ?_
  intro p e s m args below meth cd Q X hq
  have X : gCx p s m args meth cd n0 D cA "ParishUnion$Right" cX8_isUnder 4 := X
  show G p l e R_X8_isUnder s m args below meth cd n0 D cA 4 Q 0 0 M sz 0 [(0, gA n0 o), (1, gJ a)] []
  refine g_aload_n (n := 1) X 0 dX8_isUnder_0 rfl rfl rfl ?_
  obtain ⟨v1, hv1, rv1⟩ := gRd I (Rto0 r_o) (Rtosz hsz r_o) (rR_0 r_o).1
  refine gg_8_0 (n := 4) (z := v1) X (Rto0 r_o) (Rtosz hsz r_o) (lay2_R r_o) kw_2_24 dX8_isUnder_1 rfl hv1 ?_
  refine g_istore_n (n := 5) (L' := [(2, gJ v1), (0, gA n0 o), (1, gJ a)]) X dX8_isUnder_4 rfl (by decide) rfl rfl ?_
  refine g_iconst (n := 6) X dX8_isUnder_5 rfl ?_
  refine g_istore_n (n := 7) (L' := [(3, gJ 0), (2, gJ v1), (0, gA n0 o), (1, gJ a)]) X dX8_isUnder_6 rfl (by decide) rfl rfl ?_
  have j5 : ∀ (N11 : Nat) (v2 v3 : Int) , (-1 ≤ v2 ∧ v2 ≤ 4) → (0 ≤ v3 ∧ v3 ≤ 5) → ((v3 = 0 ∧ v2 = M o 0) ∨ (v3 = 1 ∧ M o 0 = 4 ∧ v2 = 1 ∧ ¬ a = 4) ∨ ((1 ≤ v3 ∧ v3 ≤ 2) ∧ v2 = 0 ∧ ¬ a = M o 0 ∧ (M o 0 = 4 → ¬ a = 1) ∧ ¬ M o 0 = 0) ∨ (v3 ≤ 3 ∧ v2 = -1 ∧ ¬ (a = 0 ∨ a = M o 0 ∨ (M o 0 = 4 ∧ a = 1)))) → (5 - v3).toNat < N11 → G p l e R_X8_isUnder s m args below meth cd n0 D cA 4 Q 0 0 M sz 7 [(1, gJ a), (2, gJ v2), (3, gJ v3)] [] := by
    intro N11; induction N11 with
    | zero => intro v2 v3 rv2 rv3 hp5 hm13; exfalso; omega
    | succ N11 ih12 =>
      intro v2 v3 rv2 rv3 hp5 hm13
      refine g_iload_n (n := 8) X 2 dX8_isUnder_7 rfl rfl rfl ?_
      refine g_iconst (n := 9) X dX8_isUnder_8 rfl ?_
      refine g_icmp_ge (n := 12) (tgt := 36) X dX8_isUnder_9 (by decide) (by omega) (by omega) rfl (fun c14 => ?_) (fun c14 => ?_)
      · refine g_iconst (n := 37) X dX8_isUnder_36 rfl ?_
        exact hq _ _ _ _ dX8_isUnder_37 (by omega) ⟨rfl, by omega, by omega⟩
      · refine g_iload_n (n := 13) X 1 dX8_isUnder_12 rfl rfl rfl ?_
        refine g_iconst (n := 14) X dX8_isUnder_13 rfl ?_
        refine g_icmp_eq (n := 17) (tgt := 36) X dX8_isUnder_14 (by decide) (by omega) (by omega) rfl (fun c15 => ?_) (fun c15 => ?_)
        · refine g_iconst (n := 37) X dX8_isUnder_36 rfl ?_
          exact hq _ _ _ _ dX8_isUnder_37 (by omega) ⟨rfl, by omega, by omega⟩
        · refine g_iload_n (n := 18) X 1 dX8_isUnder_17 rfl rfl rfl ?_
          refine g_iload_n (n := 19) X 0 dX8_isUnder_18 rfl rfl rfl ?_
          refine g_icmp_ne (n := 22) (tgt := 24) X dX8_isUnder_19 (by decide) (by omega) (by omega) rfl (fun c16 => ?_) (fun c16 => ?_)
          · refine g_getsKA (n := 27) (host := "ParishUnion") X (by decide +kernel) rfl dX8_isUnder_24 rfl (fun b17 hb17 => ?_)
            refine g_iload_n (n := 28) X 1 dX8_isUnder_27 rfl rfl rfl ?_
            obtain ⟨y18, hy18, ry18, ky18⟩ := gKA_of2 (i := v2) (by omega) (by omega)
            refine g_oldld (n := 29) (z := y18) X hb17 (by omega) (by omega) (by omega) dX8_isUnder_28 rfl hy18 ?_
            refine g_istore_n (n := 30) (L' := [(2, gJ y18), (1, gJ a), (3, gJ v3)]) X dX8_isUnder_29 rfl (by decide) rfl rfl ?_
            refine g_iinc (n := 33) (w := v3 + 1) (L' := [(3, gJ (v3 + 1)), (2, gJ y18), (1, gJ a)]) X 2 dX8_isUnder_30 rfl rfl (by decide) rfl rfl ?_
            refine g_goto (tgt := 7) X dX8_isUnder_33 (by decide) ?_
            refine G.sub (L' := [(1, gJ a), (2, gJ y18), (3, gJ (v3 + 1))]) [2, 1, 0] rfl ?_
            exact ih12 y18 (v3 + 1) (by omega) (by omega) (by omega) (by omega)
          · refine g_iconst (n := 23) X dX8_isUnder_22 rfl ?_
            exact hq _ _ _ _ dX8_isUnder_23 (by omega) ⟨rfl, by omega, by omega⟩
  refine G.sub (L' := [(1, gJ a), (2, gJ v1), (3, gJ 0)]) [3, 1, 0] rfl ?_
  exact j5 _ v1 0 (by omega) (by omega) (by omega) (Nat.lt_succ_self _)
theorem dX8_worth_0 : decode cX8_worth 0 = .ok (.aload_n 0, 1) := dc_42 (by decide +kernel)
theorem dX8_worth_1 : decode cX8_worth 1 = .ok (.getfield 9, 3) := dc_180 0 9 (by decide +kernel)
theorem dX8_worth_4 : decode cX8_worth 4 = .ok (.iconst 4, 1) := dc_7 (by decide +kernel)
theorem dX8_worth_5 : decode cX8_worth 5 = .ok (.if_icmp .ne 12, 3) := dc_160 0 12 12 (by decide +kernel)
theorem dX8_worth_17 : decode cX8_worth 17 = .ok (.aload_n 0, 1) := dc_42 (by decide +kernel)
theorem dX8_worth_18 : decode cX8_worth 18 = .ok (.getfield 21, 3) := dc_180 0 21 (by decide +kernel)
theorem dX8_worth_21 : decode cX8_worth 21 = .ok (.ireturn, 1) := dc_172 (by decide +kernel)
theorem dX8_worth_8 : decode cX8_worth 8 = .ok (.iconst 2, 1) := dc_5 (by decide +kernel)
theorem dX8_worth_9 : decode cX8_worth 9 = .ok (.aload_n 0, 1) := dc_42 (by decide +kernel)
theorem dX8_worth_10 : decode cX8_worth 10 = .ok (.getfield 21, 3) := dc_180 0 21 (by decide +kernel)
theorem dX8_worth_13 : decode cX8_worth 13 = .ok (.imul, 1) := dc_104 (by decide +kernel)
theorem dX8_worth_14 : decode cX8_worth 14 = .ok (.goto 7, 3) := dc_167 0 7 7 (by decide +kernel)
abbrev R_X8_worth : Room := { frames := 0, cells := 0, slots := 0, locals := 0 }
set_option maxRecDepth 100000 in
set_option maxHeartbeats 4000000 in
theorem s_X8_worth {l : Launch} {n0 : Nat} {D : va_G} {cA : Nat → ClassId} {M : gM} (o : Int) (r_o : 47 ≤ o ∧ o < 87) {sz : Nat} (hsz : 206 ≤ sz) (I : gI sz M) (C : gC sz M)   : Met l yX8_worth (gWsOf yX8_worth cX8_worth 1 (Option.some Jvm.ClassFile.FieldType.int)) R_X8_worth (gPc n0 D cA [gA n0 o] M sz) (gQi n0 D cA sz (fun z M1 => M = M1 ∧ (0 ≤ z ∧ z ≤ 19998) ∧ ((M o 0 = 4 ∧ z = 2 * M o 3) ∨ (¬ M o 0 = 4 ∧ z = M o 3)))) 0 0 (fun q => n0 ≤ q) := by
  refine gMetI [gA n0 o] (by decide) (Nat.le_of_ble_eq_true rfl) ⟨rfl, rfl⟩ ?_
  intro p e s m args below meth cd Q X hq
  have X : gCx p s m args meth cd n0 D cA "ParishUnion$Right" cX8_worth 1 := X
  show G p l e R_X8_worth s m args below meth cd n0 D cA 1 Q 0 0 M sz 0 [(0, gA n0 o)] []
  refine g_aload_n (n := 1) X 0 dX8_worth_0 rfl rfl rfl ?_
  obtain ⟨v1, hv1, rv1⟩ := gRd I (Rto0 r_o) (Rtosz hsz r_o) (rR_0 r_o).1
  refine gg_8_0 (n := 4) (z := v1) X (Rto0 r_o) (Rtosz hsz r_o) (lay2_R r_o) kw_2_24 dX8_worth_1 rfl hv1 ?_
  refine g_iconst (n := 5) X dX8_worth_4 rfl ?_
  refine g_icmp_ne (n := 8) (tgt := 17) X dX8_worth_5 (by decide) (by omega) (by omega) rfl (fun c2 => ?_) (fun c2 => ?_)
  · refine g_aload_n (n := 18) X 0 dX8_worth_17 rfl rfl rfl ?_
    obtain ⟨v3, hv3, rv3⟩ := gRd I (Rto0 r_o) (Rtosz hsz r_o) (rR_3 r_o).1
    refine gg_8_3 (n := 21) (z := v3) X (Rto0 r_o) (Rtosz hsz r_o) (lay2_R r_o) kw_2_33 dX8_worth_18 rfl hv3 ?_
    exact hq _ _ _ _ dX8_worth_21 ⟨rfl, by omega, by omega⟩
  · refine g_iconst (n := 9) X dX8_worth_8 rfl ?_
    refine g_aload_n (n := 10) X 0 dX8_worth_9 rfl rfl rfl ?_
    obtain ⟨v4, hv4, rv4⟩ := gRd I (Rto0 r_o) (Rtosz hsz r_o) (rR_3 r_o).1
    refine gg_8_3 (n := 13) (z := v4) X (Rto0 r_o) (Rtosz hsz r_o) (lay2_R r_o) kw_2_33 dX8_worth_10 rfl hv4 ?_
    refine g_imul (n := 14) (z := 2 * v4) X dX8_worth_13 rfl rfl ?_
    refine g_goto (tgt := 21) X dX8_worth_14 (by decide) ?_
    exact hq _ _ _ _ dX8_worth_21 ⟨rfl, by omega, by omega⟩
