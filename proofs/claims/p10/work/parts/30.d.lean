theorem dX5_open_0 : decode cX5_open 0 = .ok (.iconst 0, 1) := dc_3 (by decide +kernel)
theorem dX5_open_1 : decode cX5_open 1 = .ok (.istore_n 2, 1) := dc_61 (by decide +kernel)
theorem dX5_open_2 : decode cX5_open 2 = .ok (.iload_n 2, 1) := dc_28 (by decide +kernel)
theorem dX5_open_3 : decode cX5_open 3 = .ok (.bipush 7, 2) := dc_16 7 7 (by decide +kernel)
theorem dX5_open_5 : decode cX5_open 5 = .ok (.if_icmp .ge 21, 3) := dc_162 0 21 21 (by decide +kernel)
theorem dX5_open_8 : decode cX5_open 8 = .ok (.aload_n 0, 1) := dc_42 (by decide +kernel)
theorem dX5_open_9 : decode cX5_open 9 = .ok (.getfield 9, 3) := dc_180 0 9 (by decide +kernel)
theorem kw_1_142 : (Jvm.Cond.fieldLink "ParishUnion$Past" (9 : Nat) "ParishUnion$Past" "sums" "[I") ∈ gT := gT_of (tb_1 _ (List.mem_of_getElem? (i := 142) rfl)) rfl
theorem rf_23_0 {sz : Nat} {M : gM} (I : gI sz M) (h : (23 : Int) < (sz : Int)) : M 23 0 = 24 + 1 := gI.rf I (by decide) h (by decide +kernel)
theorem dX5_open_12 : decode cX5_open 12 = .ok (.iload_n 1, 1) := dc_27 (by decide +kernel)
theorem dX5_open_13 : decode cX5_open 13 = .ok (.bipush 7, 2) := dc_16 7 7 (by decide +kernel)
theorem dX5_open_15 : decode cX5_open 15 = .ok (.imul, 1) := dc_104 (by decide +kernel)
theorem dX5_open_16 : decode cX5_open 16 = .ok (.iload_n 2, 1) := dc_28 (by decide +kernel)
theorem dX5_open_17 : decode cX5_open 17 = .ok (.iadd, 1) := dc_96 (by decide +kernel)
theorem dX5_open_18 : decode cX5_open 18 = .ok (.iconst 0, 1) := dc_3 (by decide +kernel)
theorem dX5_open_19 : decode cX5_open 19 = .ok (.iastore, 1) := dc_79 (by decide +kernel)
theorem ra_24 (k : Int) : gRg 24 k = (-2147483648, 2147483647) ∧ gCr 24 k = false ∧ gG 24 k = 16 := ⟨rfl, rfl, rfl⟩
theorem dX5_open_20 : decode cX5_open 20 = .ok (.iinc 2 1, 3) := dc_132 2 1 1 (by decide +kernel)
theorem dX5_open_23 : decode cX5_open 23 = .ok (.goto (-21), 3) := dc_167 255 235 (-21) (by decide +kernel)
theorem dX5_open_26 : decode cX5_open 26 = .ok (.iconst 0, 1) := dc_3 (by decide +kernel)
theorem dX5_open_27 : decode cX5_open 27 = .ok (.istore_n 2, 1) := dc_61 (by decide +kernel)
theorem dX5_open_28 : decode cX5_open 28 = .ok (.iload_n 2, 1) := dc_28 (by decide +kernel)
theorem dX5_open_29 : decode cX5_open 29 = .ok (.bipush 16, 2) := dc_16 16 16 (by decide +kernel)
theorem dX5_open_31 : decode cX5_open 31 = .ok (.if_icmp .ge 23, 3) := dc_162 0 23 23 (by decide +kernel)
theorem dX5_open_34 : decode cX5_open 34 = .ok (.aload_n 0, 1) := dc_42 (by decide +kernel)
theorem dX5_open_35 : decode cX5_open 35 = .ok (.getfield 15, 3) := dc_180 0 15 (by decide +kernel)
theorem kw_1_143 : (Jvm.Cond.fieldLink "ParishUnion$Past" (15 : Nat) "ParishUnion$Past" "marks" "[J") ∈ gT := gT_of (tb_1 _ (List.mem_of_getElem? (i := 143) rfl)) rfl
theorem rf_23_1 {sz : Nat} {M : gM} (I : gI sz M) (h : (23 : Int) < (sz : Int)) : M 23 1 = 25 + 1 := gI.rf I (by decide) h (by decide +kernel)
theorem dX5_open_38 : decode cX5_open 38 = .ok (.iload_n 1, 1) := dc_27 (by decide +kernel)
theorem dX5_open_39 : decode cX5_open 39 = .ok (.bipush 16, 2) := dc_16 16 16 (by decide +kernel)
theorem dX5_open_41 : decode cX5_open 41 = .ok (.imul, 1) := dc_104 (by decide +kernel)
theorem dX5_open_42 : decode cX5_open 42 = .ok (.iload_n 2, 1) := dc_28 (by decide +kernel)
theorem dX5_open_43 : decode cX5_open 43 = .ok (.iadd, 1) := dc_96 (by decide +kernel)
theorem dX5_open_44 : decode cX5_open 44 = .ok (.ldc2_w 25, 3) := dc_20 0 25 (by decide +kernel)
theorem kw_4_193 : (Jvm.Cond.constantLong "ParishUnion$Past" (25 : Nat) (-1 : Int64)) ∈ gT := gT_of (tb_4 _ (List.mem_of_getElem? (i := 193) rfl)) rfl
theorem dX5_open_47 : decode cX5_open 47 = .ok (.lastore, 1) := dc_80 (by decide +kernel)
theorem ra_25 (k : Int) : gRg 25 k = (-9223372036854775808, 9223372036854775807) ∧ gCr 25 k = false ∧ gG 25 k = 16 := ⟨rfl, rfl, rfl⟩
theorem dX5_open_48 : decode cX5_open 48 = .ok (.iinc 2 1, 3) := dc_132 2 1 1 (by decide +kernel)
theorem dX5_open_51 : decode cX5_open 51 = .ok (.goto (-23), 3) := dc_167 255 233 (-23) (by decide +kernel)
theorem dX5_open_54 : decode cX5_open 54 = .ok (.return_, 1) := dc_177 (by decide +kernel)
abbrev R_X5_open : Room := { frames := 0, cells := 0, slots := 0, locals := 0 }
set_option maxRecDepth 100000 in
set_option maxHeartbeats 4000000 in
theorem s_X5_open {l : Launch} {n0 : Nat} {D : va_G} {cA : Nat → ClassId} {M : gM} (a : Int) (r_a : 0 ≤ a ∧ a ≤ 299) {sz : Nat} (hsz : 206 ≤ sz) (I : gI sz M) (C : gC sz M)   : Met l yX5_open (gWsOf yX5_open cX5_open 3 (Option.none : Option Jvm.ClassFile.FieldType)) R_X5_open (gPc n0 D cA [gA n0 23, gJ a] M sz) (gQv n0 D cA sz (fun M1 => gI sz M1 ∧ gC sz M1 ∧ gFr 65536 M M1)) 0 0 (fun q => n0 ≤ q) := by
  refine gMetV [gA n0 23, gJ a] (by decide) (Nat.le_of_ble_eq_true rfl) ⟨rfl, rfl⟩ ?_
  intro p e s m args below meth cd Q X hq
  have X : gCx p s m args meth cd n0 D cA "ParishUnion$Past" cX5_open 3 := X
  show G p l e R_X5_open s m args below meth cd n0 D cA 3 Q 0 0 M sz 0 [(0, gA n0 23), (1, gJ a)] []
  refine g_iconst (n := 1) X dX5_open_0 rfl ?_
  refine g_istore_n (n := 2) (L' := [(2, gJ 0), (0, gA n0 23), (1, gJ a)]) X dX5_open_1 rfl (by decide) rfl rfl ?_
  have j3 : ∀ (N52 : Nat) (v1 : Int) (M2 : gM) , (0 ≤ v1 ∧ v1 ≤ 7) → gI sz M2 → gC sz M2 → gFr 65536 M M2 → (7 - v1).toNat < N52 → G p l e R_X5_open s m args below meth cd n0 D cA 3 Q 0 0 M2 sz 2 [(0, gA n0 23), (1, gJ a), (2, gJ v1)] [] := by
    intro N52; induction N52 with
    | zero => intro v1 M2 rv1 IM2 CM2 FM2 hm54; exfalso; omega
    | succ N52 ih53 =>
      intro v1 M2 rv1 IM2 CM2 FM2 hm54
      refine g_iload_n (n := 3) X 2 dX5_open_2 rfl rfl rfl ?_
      refine g_bipush (n := 5) X dX5_open_3 (by decide +kernel) rfl ?_
      refine g_icmp_ge (n := 8) (tgt := 26) X dX5_open_5 (by decide) (by omega) (by omega) rfl (fun c55 => ?_) (fun c55 => ?_)
      · refine g_iconst (n := 27) X dX5_open_26 rfl ?_
        refine g_istore_n (n := 28) (L' := [(2, gJ 0), (0, gA n0 23), (1, gJ a)]) X dX5_open_27 rfl (by decide) rfl rfl ?_
        have j58 : ∀ (N83 : Nat) (v56 : Int) (M57 : gM) , (0 ≤ v56 ∧ v56 ≤ 16) → gI sz M57 → gC sz M57 → gFr 65536 M2 M57 → (16 - v56).toNat < N83 → G p l e R_X5_open s m args below meth cd n0 D cA 3 Q 0 0 M57 sz 28 [(0, gA n0 23), (1, gJ a), (2, gJ v56)] [] := by
          intro N83; induction N83 with
          | zero => intro v56 M57 rv56 IM57 CM57 FM57 hm85; exfalso; omega
          | succ N83 ih84 =>
            intro v56 M57 rv56 IM57 CM57 FM57 hm85
            refine g_iload_n (n := 29) X 2 dX5_open_28 rfl rfl rfl ?_
            refine g_bipush (n := 31) X dX5_open_29 (by decide +kernel) rfl ?_
            refine g_icmp_ge (n := 34) (tgt := 54) X dX5_open_31 (by decide) (by omega) (by omega) rfl (fun c86 => ?_) (fun c86 => ?_)
            · exact hq _ _ _ dX5_open_54 ⟨IM57, CM57, (gFr.c (gFr.c gFr.rf FM2 rfl) FM57 rfl)⟩
            · refine g_aload_n (n := 35) X 0 dX5_open_34 rfl rfl rfl ?_
              refine gg_5_1 (n := 38) (z := 25) X (by decide) (gsz hsz (by decide)) lay_23 kw_1_143 dX5_open_35 rfl (rf_23_1 IM57 (gsz hsz (by decide))) (by decide) ?_
              refine g_iload_n (n := 39) X 1 dX5_open_38 rfl rfl rfl ?_
              refine g_bipush (n := 41) X dX5_open_39 (by decide +kernel) rfl ?_
              refine g_imul (n := 42) (z := a * 16) X dX5_open_41 rfl rfl ?_
              refine g_iload_n (n := 43) X 2 dX5_open_42 rfl rfl rfl ?_
              refine g_iadd (n := 44) (z := (a * 16) + v56) X dX5_open_43 rfl rfl ?_
              refine g_ldc2 (n := 47) (z := (-1)) X dX5_open_44 kw_4_193 (by decide +kernel) rfl ?_
              refine g_last (n := 48) X (by decide) (gsz hsz (by decide)) lay_25 (by omega) (by omega) (by decide) dX5_open_47 rfl ?_
              refine G.nm (fun M87 e88 => ?_)
              have IM87 : gI sz M87 := gI.set IM57 (ra_25 ((a * 16) + v56)).1 (by omega) e88
              have CM87 : gC sz M87 := gC.set CM57 (ra_25 ((a * 16) + v56)).2.1 e88
              refine g_iinc (n := 51) (w := v56 + 1) (L' := [(2, gJ (v56 + 1)), (0, gA n0 23), (1, gJ a)]) X 2 dX5_open_48 rfl rfl (by decide) rfl rfl ?_
              refine g_goto (tgt := 28) X dX5_open_51 (by decide) ?_
              refine G.sub (L' := [(0, gA n0 23), (1, gJ a), (2, gJ (v56 + 1))]) [1, 2, 0] rfl ?_
              exact ih84 (v56 + 1) M87 (by omega) IM87 CM87 (gFr.s (gFr.c gFr.rf FM57 rfl) e88 (ra_25 ((a * 16) + v56)).2.2 rfl) (by omega)
        refine G.sub (L' := [(0, gA n0 23), (1, gJ a), (2, gJ 0)]) [1, 2, 0] rfl ?_
        exact j58 _ 0 M2 (by omega) IM2 CM2 gFr.rf (Nat.lt_succ_self _)
      · refine g_aload_n (n := 9) X 0 dX5_open_8 rfl rfl rfl ?_
        refine gg_5_0 (n := 12) (z := 24) X (by decide) (gsz hsz (by decide)) lay_23 kw_1_142 dX5_open_9 rfl (rf_23_0 IM2 (gsz hsz (by decide))) (by decide) ?_
        refine g_iload_n (n := 13) X 1 dX5_open_12 rfl rfl rfl ?_
        refine g_bipush (n := 15) X dX5_open_13 (by decide +kernel) rfl ?_
        refine g_imul (n := 16) (z := a * 7) X dX5_open_15 rfl rfl ?_
        refine g_iload_n (n := 17) X 2 dX5_open_16 rfl rfl rfl ?_
        refine g_iadd (n := 18) (z := (a * 7) + v1) X dX5_open_17 rfl rfl ?_
        refine g_iconst (n := 19) X dX5_open_18 rfl ?_
        refine g_iast (n := 20) X (by decide) (gsz hsz (by decide)) lay_24 (by omega) (by omega) (by decide) dX5_open_19 rfl ?_
        refine G.nm (fun M89 e90 => ?_)
        have IM89 : gI sz M89 := gI.set IM2 (ra_24 ((a * 7) + v1)).1 (by omega) e90
        have CM89 : gC sz M89 := gC.set CM2 (ra_24 ((a * 7) + v1)).2.1 e90
        refine g_iinc (n := 23) (w := v1 + 1) (L' := [(2, gJ (v1 + 1)), (0, gA n0 23), (1, gJ a)]) X 2 dX5_open_20 rfl rfl (by decide) rfl rfl ?_
        refine g_goto (tgt := 2) X dX5_open_23 (by decide) ?_
        refine G.sub (L' := [(0, gA n0 23), (1, gJ a), (2, gJ (v1 + 1))]) [1, 2, 0] rfl ?_
        exact ih53 (v1 + 1) M89 (by omega) IM89 CM89 (gFr.s (gFr.c gFr.rf FM2 rfl) e90 (ra_24 ((a * 7) + v1)).2.2 rfl) (by omega)
  refine G.sub (L' := [(0, gA n0 23), (1, gJ a), (2, gJ 0)]) [1, 2, 0] rfl ?_
  exact j3 _ 0 M (by omega) I C gFr.rf (Nat.lt_succ_self _)
theorem dX5_add_0 : decode cX5_add 0 = .ok (.aload_n 0, 1) := dc_42 (by decide +kernel)
theorem dX5_add_1 : decode cX5_add 1 = .ok (.getfield 9, 3) := dc_180 0 9 (by decide +kernel)
theorem dX5_add_4 : decode cX5_add 4 = .ok (.iload_n 1, 1) := dc_27 (by decide +kernel)
theorem dX5_add_5 : decode cX5_add 5 = .ok (.bipush 7, 2) := dc_16 7 7 (by decide +kernel)
theorem dX5_add_7 : decode cX5_add 7 = .ok (.imul, 1) := dc_104 (by decide +kernel)
theorem dX5_add_8 : decode cX5_add 8 = .ok (.iload_n 2, 1) := dc_28 (by decide +kernel)
theorem dX5_add_9 : decode cX5_add 9 = .ok (.iadd, 1) := dc_96 (by decide +kernel)
theorem dX5_add_10 : decode cX5_add 10 = .ok (.dup2, 1) := dc_92 (by decide +kernel)
theorem dX5_add_11 : decode cX5_add 11 = .ok (.iaload, 1) := dc_46 (by decide +kernel)
theorem dX5_add_12 : decode cX5_add 12 = .ok (.iload_n 3, 1) := dc_29 (by decide +kernel)
theorem dX5_add_13 : decode cX5_add 13 = .ok (.iadd, 1) := dc_96 (by decide +kernel)
theorem dX5_add_14 : decode cX5_add 14 = .ok (.iastore, 1) := dc_79 (by decide +kernel)
theorem dX5_add_15 : decode cX5_add 15 = .ok (.return_, 1) := dc_177 (by decide +kernel)
abbrev R_X5_add : Room := { frames := 0, cells := 0, slots := 0, locals := 0 }
set_option maxRecDepth 100000 in
set_option maxHeartbeats 4000000 in
theorem s_X5_add {l : Launch} {n0 : Nat} {D : va_G} {cA : Nat → ClassId} {M : gM} (a : Int) (r_a : 0 ≤ a ∧ a ≤ 299) (b : Int) (r_b : 0 ≤ b ∧ b ≤ 6) (c : Int) (r_c : -2147483648 ≤ c ∧ c ≤ 2147483647) {sz : Nat} (hsz : 206 ≤ sz) (I : gI sz M) (C : gC sz M)   : Met l yX5_add (gWsOf yX5_add cX5_add 4 (Option.none : Option Jvm.ClassFile.FieldType)) R_X5_add (gPc n0 D cA [gA n0 23, gJ a, gJ b, gJ c] M sz) (gQv n0 D cA sz (fun M1 => gI sz M1 ∧ gC sz M1 ∧ gFr 65536 M M1)) 0 0 (fun q => n0 ≤ q) := by
  refine gMetV [gA n0 23, gJ a, gJ b, gJ c] (by decide) (Nat.le_of_ble_eq_true rfl) ⟨rfl, rfl⟩ ?_
  intro p e s m args below meth cd Q X hq
  have X : gCx p s m args meth cd n0 D cA "ParishUnion$Past" cX5_add 4 := X
  show G p l e R_X5_add s m args below meth cd n0 D cA 4 Q 0 0 M sz 0 [(0, gA n0 23), (1, gJ a), (2, gJ b), (3, gJ c)] []
  refine g_aload_n (n := 1) X 0 dX5_add_0 rfl rfl rfl ?_
  refine gg_5_0 (n := 4) (z := 24) X (by decide) (gsz hsz (by decide)) lay_23 kw_1_142 dX5_add_1 rfl (rf_23_0 I (gsz hsz (by decide))) (by decide) ?_
  refine g_iload_n (n := 5) X 1 dX5_add_4 rfl rfl rfl ?_
  refine g_bipush (n := 7) X dX5_add_5 (by decide +kernel) rfl ?_
  refine g_imul (n := 8) (z := a * 7) X dX5_add_7 rfl rfl ?_
  refine g_iload_n (n := 9) X 2 dX5_add_8 rfl rfl rfl ?_
  refine g_iadd (n := 10) (z := (a * 7) + b) X dX5_add_9 rfl rfl ?_
  refine g_dup2 (n := 11) X dX5_add_10 rfl rfl rfl ?_
  obtain ⟨v1, hv1, rv1⟩ := gRd I (by decide) (gsz hsz (by decide)) (ra_24 ((a * 7) + b)).1
  refine g_iald2 (n := 12) (v := v1) X (by decide) (gsz hsz (by decide)) lay_24 (by omega) (by omega) (by decide) dX5_add_11 rfl hv1 ?_
  refine g_iload_n (n := 13) X 3 dX5_add_12 rfl rfl rfl ?_
  refine g_iaddA (n := 14) X dX5_add_13 rfl (fun v2 rv2 xv2 => ?_)
  clear xv2
  refine g_iast (n := 15) X (by decide) (gsz hsz (by decide)) lay_24 (by omega) (by omega) (by decide) dX5_add_14 rfl ?_
  refine G.nm (fun M3 e4 => ?_)
  have IM3 : gI sz M3 := gI.set I (ra_24 ((a * 7) + b)).1 (by omega) e4
  have CM3 : gC sz M3 := gC.set C (ra_24 ((a * 7) + b)).2.1 e4
  exact hq _ _ _ dX5_add_15 ⟨IM3, CM3, (gFr.s gFr.rf e4 (ra_24 ((a * 7) + b)).2.2 rfl)⟩
theorem dX5_write_0 : decode cX5_write 0 = .ok (.aload_n 0, 1) := dc_42 (by decide +kernel)
theorem dX5_write_1 : decode cX5_write 1 = .ok (.getfield 15, 3) := dc_180 0 15 (by decide +kernel)
theorem dX5_write_4 : decode cX5_write 4 = .ok (.iload_n 1, 1) := dc_27 (by decide +kernel)
theorem dX5_write_5 : decode cX5_write 5 = .ok (.bipush 16, 2) := dc_16 16 16 (by decide +kernel)
theorem dX5_write_7 : decode cX5_write 7 = .ok (.imul, 1) := dc_104 (by decide +kernel)
theorem dX5_write_8 : decode cX5_write 8 = .ok (.iload_n 2, 1) := dc_28 (by decide +kernel)
theorem dX5_write_9 : decode cX5_write 9 = .ok (.iadd, 1) := dc_96 (by decide +kernel)
theorem dX5_write_10 : decode cX5_write 10 = .ok (.aload_n 3, 1) := dc_45 (by decide +kernel)
theorem dX5_write_11 : decode cX5_write 11 = .ok (.getfield 27, 3) := dc_180 0 27 (by decide +kernel)
theorem kw_1_192 : (Jvm.Cond.fieldLink "ParishUnion$Past" (27 : Nat) "ParishUnion$Person" "at" "I") ∈ gT := gT_of (tb_1 _ (List.mem_of_getElem? (i := 192) rfl)) rfl
theorem dX5_write_14 : decode cX5_write 14 = .ok (.i2l, 1) := dc_133 (by decide +kernel)
theorem dX5_write_15 : decode cX5_write 15 = .ok (.aload_n 3, 1) := dc_45 (by decide +kernel)
theorem dX5_write_16 : decode cX5_write 16 = .ok (.getfield 33, 3) := dc_180 0 33 (by decide +kernel)
theorem kw_1_221 : (Jvm.Cond.fieldLink "ParishUnion$Past" (33 : Nat) "ParishUnion$Person" "asked" "Z") ∈ gT := gT_of (tb_1 _ (List.mem_of_getElem? (i := 221) rfl)) rfl
theorem dX5_write_19 : decode cX5_write 19 = .ok (.ifCond .eq 9, 3) := dc_153 0 9 9 (by decide +kernel)
theorem dX5_write_28 : decode cX5_write 28 = .ok (.lconst 0, 1) := dc_9 (by decide +kernel)
theorem dX5_write_29 : decode cX5_write 29 = .ok (.lor, 1) := dc_129 (by decide +kernel)
theorem dX5_write_30 : decode cX5_write 30 = .ok (.aload_n 3, 1) := dc_45 (by decide +kernel)
theorem dX5_write_31 : decode cX5_write 31 = .ok (.getfield 39, 3) := dc_180 0 39 (by decide +kernel)
theorem kw_1_215 : (Jvm.Cond.fieldLink "ParishUnion$Past" (39 : Nat) "ParishUnion$Person" "eaten" "I") ∈ gT := gT_of (tb_1 _ (List.mem_of_getElem? (i := 215) rfl)) rfl
theorem dX5_write_34 : decode cX5_write 34 = .ok (.i2l, 1) := dc_133 (by decide +kernel)
theorem dX5_write_35 : decode cX5_write 35 = .ok (.bipush 8, 2) := dc_16 8 8 (by decide +kernel)
theorem dX5_write_37 : decode cX5_write 37 = .ok (.lshl, 1) := dc_121 (by decide +kernel)
theorem dX5_write_38 : decode cX5_write 38 = .ok (.lor, 1) := dc_129 (by decide +kernel)
theorem dX5_write_39 : decode cX5_write 39 = .ok (.aload_n 3, 1) := dc_45 (by decide +kernel)
theorem dX5_write_40 : decode cX5_write 40 = .ok (.getfield 42, 3) := dc_180 0 42 (by decide +kernel)
theorem kw_1_218 : (Jvm.Cond.fieldLink "ParishUnion$Past" (42 : Nat) "ParishUnion$Person" "given" "I") ∈ gT := gT_of (tb_1 _ (List.mem_of_getElem? (i := 218) rfl)) rfl
theorem dX5_write_43 : decode cX5_write 43 = .ok (.i2l, 1) := dc_133 (by decide +kernel)
theorem dX5_write_44 : decode cX5_write 44 = .ok (.bipush 24, 2) := dc_16 24 24 (by decide +kernel)
theorem dX5_write_46 : decode cX5_write 46 = .ok (.lshl, 1) := dc_121 (by decide +kernel)
theorem dX5_write_47 : decode cX5_write 47 = .ok (.lor, 1) := dc_129 (by decide +kernel)
theorem dX5_write_48 : decode cX5_write 48 = .ok (.lastore, 1) := dc_80 (by decide +kernel)
theorem dX5_write_49 : decode cX5_write 49 = .ok (.return_, 1) := dc_177 (by decide +kernel)
theorem dX5_write_22 : decode cX5_write 22 = .ok (.ldc2_w 37, 3) := dc_20 0 37 (by decide +kernel)
theorem kw_5_0 : (Jvm.Cond.constantLong "ParishUnion$Past" (37 : Nat) (16 : Int64)) ∈ gT := gT_of (tb_5 _ (List.mem_of_getElem? (i := 0) rfl)) rfl
theorem dX5_write_25 : decode cX5_write 25 = .ok (.goto 4, 3) := dc_167 0 4 4 (by decide +kernel)
abbrev R_X5_write : Room := { frames := 0, cells := 0, slots := 0, locals := 0 }
set_option maxRecDepth 100000 in
set_option maxHeartbeats 4000000 in
theorem s_X5_write {l : Launch} {n0 : Nat} {D : va_G} {cA : Nat → ClassId} {M : gM} (a : Int) (r_a : 0 ≤ a ∧ a ≤ 299) (b : Int) (r_b : 0 ≤ b ∧ b ≤ 15) (oc : Int) (r_oc : 31 ≤ oc ∧ oc < 47) {sz : Nat} (hsz : 206 ≤ sz) (I : gI sz M) (C : gC sz M)   : Met l yX5_write (gWsOf yX5_write cX5_write 4 (Option.none : Option Jvm.ClassFile.FieldType)) R_X5_write (gPc n0 D cA [gA n0 23, gJ a, gJ b, gA n0 oc] M sz) (gQv n0 D cA sz (fun M1 => gI sz M1 ∧ gC sz M1 ∧ gFr 65536 M M1)) 0 0 (fun q => n0 ≤ q) := by
  refine gMetV [gA n0 23, gJ a, gJ b, gA n0 oc] (by decide) (Nat.le_of_ble_eq_true rfl) ⟨rfl, rfl⟩ ?_
  intro p e s m args below meth cd Q X hq
  have X : gCx p s m args meth cd n0 D cA "ParishUnion$Past" cX5_write 4 := X
  show G p l e R_X5_write s m args below meth cd n0 D cA 4 Q 0 0 M sz 0 [(0, gA n0 23), (1, gJ a), (2, gJ b), (3, gA n0 oc)] []
  refine g_aload_n (n := 1) X 0 dX5_write_0 rfl rfl rfl ?_
  refine gg_5_1 (n := 4) (z := 25) X (by decide) (gsz hsz (by decide)) lay_23 kw_1_143 dX5_write_1 rfl (rf_23_1 I (gsz hsz (by decide))) (by decide) ?_
  refine g_iload_n (n := 5) X 1 dX5_write_4 rfl rfl rfl ?_
  refine g_bipush (n := 7) X dX5_write_5 (by decide +kernel) rfl ?_
  refine g_imul (n := 8) (z := a * 16) X dX5_write_7 rfl rfl ?_
  refine g_iload_n (n := 9) X 2 dX5_write_8 rfl rfl rfl ?_
  refine g_iadd (n := 10) (z := (a * 16) + b) X dX5_write_9 rfl rfl ?_
  refine g_aload_n (n := 11) X 3 dX5_write_10 rfl rfl rfl ?_
  obtain ⟨v1, hv1, rv1⟩ := gRd I (Po0 r_oc) (Posz hsz r_oc) (rP_5 r_oc).1
  refine gg_6_5 (n := 14) (z := v1) X (Po0 r_oc) (Posz hsz r_oc) (lay2_P r_oc) kw_1_192 dX5_write_11 rfl hv1 ?_
  refine g_i2lE (n := 15) (z := v1) X dX5_write_14 (g_i2l (by omega)) rfl ?_
  refine g_aload_n (n := 16) X 3 dX5_write_15 rfl rfl rfl ?_
  obtain ⟨v2, hv2, rv2⟩ := gRd I (Po0 r_oc) (Posz hsz r_oc) (rP_14 r_oc).1
  refine gg_6_14 (n := 19) (z := v2) X (Po0 r_oc) (Posz hsz r_oc) (lay2_P r_oc) kw_1_221 dX5_write_16 rfl hv2 ?_
  refine g_if_eq (n := 22) (tgt := 28) X dX5_write_19 (by decide) (by omega) rfl (fun c3 => ?_) (fun c3 => ?_)
  · refine g_lconst (n := 29) (z := 0) X dX5_write_28 (by decide +kernel) rfl ?_
    refine g_lorA (n := 30) X dX5_write_29 rfl (fun v4 rv4 xv4 => ?_)
    clear xv4
    refine g_aload_n (n := 31) X 3 dX5_write_30 rfl rfl rfl ?_
    obtain ⟨v5, hv5, rv5⟩ := gRd I (Po0 r_oc) (Posz hsz r_oc) (rP_12 r_oc).1
    refine gg_6_12 (n := 34) (z := v5) X (Po0 r_oc) (Posz hsz r_oc) (lay2_P r_oc) kw_1_215 dX5_write_31 rfl hv5 ?_
    refine g_i2lE (n := 35) (z := v5) X dX5_write_34 (g_i2l (by omega)) rfl ?_
    refine g_bipush (n := 37) X dX5_write_35 (by decide +kernel) rfl ?_
    refine g_lshlA (n := 38) X dX5_write_37 rfl (fun v6 rv6 xv6 => ?_)
    clear xv6
    refine g_lorA (n := 39) X dX5_write_38 rfl (fun v7 rv7 xv7 => ?_)
    clear xv7
    refine g_aload_n (n := 40) X 3 dX5_write_39 rfl rfl rfl ?_
    obtain ⟨v8, hv8, rv8⟩ := gRd I (Po0 r_oc) (Posz hsz r_oc) (rP_13 r_oc).1
    refine gg_6_13 (n := 43) (z := v8) X (Po0 r_oc) (Posz hsz r_oc) (lay2_P r_oc) kw_1_218 dX5_write_40 rfl hv8 ?_
    refine g_i2lE (n := 44) (z := v8) X dX5_write_43 (g_i2l (by omega)) rfl ?_
    refine g_bipush (n := 46) X dX5_write_44 (by decide +kernel) rfl ?_
    refine g_lshlA (n := 47) X dX5_write_46 rfl (fun v9 rv9 xv9 => ?_)
    clear xv9
    refine g_lorA (n := 48) X dX5_write_47 rfl (fun v10 rv10 xv10 => ?_)
    clear xv10
    refine g_last (n := 49) X (by decide) (gsz hsz (by decide)) lay_25 (by omega) (by omega) (by decide) dX5_write_48 rfl ?_
    refine G.nm (fun M11 e12 => ?_)
    have IM11 : gI sz M11 := gI.set I (ra_25 ((a * 16) + b)).1 (by omega) e12
    have CM11 : gC sz M11 := gC.set C (ra_25 ((a * 16) + b)).2.1 e12
    exact hq _ _ _ dX5_write_49 ⟨IM11, CM11, (gFr.s gFr.rf e12 (ra_25 ((a * 16) + b)).2.2 rfl)⟩
  · refine g_ldc2 (n := 25) (z := 16) X dX5_write_22 kw_5_0 (by decide +kernel) rfl ?_
    refine g_goto (tgt := 29) X dX5_write_25 (by decide) ?_
    refine g_lorA (n := 30) X dX5_write_29 rfl (fun v13 rv13 xv13 => ?_)
    clear xv13
    refine g_aload_n (n := 31) X 3 dX5_write_30 rfl rfl rfl ?_
    obtain ⟨v14, hv14, rv14⟩ := gRd I (Po0 r_oc) (Posz hsz r_oc) (rP_12 r_oc).1
    refine gg_6_12 (n := 34) (z := v14) X (Po0 r_oc) (Posz hsz r_oc) (lay2_P r_oc) kw_1_215 dX5_write_31 rfl hv14 ?_
    refine g_i2lE (n := 35) (z := v14) X dX5_write_34 (g_i2l (by omega)) rfl ?_
    refine g_bipush (n := 37) X dX5_write_35 (by decide +kernel) rfl ?_
    refine g_lshlA (n := 38) X dX5_write_37 rfl (fun v15 rv15 xv15 => ?_)
    clear xv15
    refine g_lorA (n := 39) X dX5_write_38 rfl (fun v16 rv16 xv16 => ?_)
    clear xv16
    refine g_aload_n (n := 40) X 3 dX5_write_39 rfl rfl rfl ?_
    obtain ⟨v17, hv17, rv17⟩ := gRd I (Po0 r_oc) (Posz hsz r_oc) (rP_13 r_oc).1
    refine gg_6_13 (n := 43) (z := v17) X (Po0 r_oc) (Posz hsz r_oc) (lay2_P r_oc) kw_1_218 dX5_write_40 rfl hv17 ?_
    refine g_i2lE (n := 44) (z := v17) X dX5_write_43 (g_i2l (by omega)) rfl ?_
    refine g_bipush (n := 46) X dX5_write_44 (by decide +kernel) rfl ?_
    refine g_lshlA (n := 47) X dX5_write_46 rfl (fun v18 rv18 xv18 => ?_)
    clear xv18
    refine g_lorA (n := 48) X dX5_write_47 rfl (fun v19 rv19 xv19 => ?_)
    clear xv19
    refine g_last (n := 49) X (by decide) (gsz hsz (by decide)) lay_25 (by omega) (by omega) (by decide) dX5_write_48 rfl ?_
    refine G.nm (fun M20 e21 => ?_)
    have IM20 : gI sz M20 := gI.set I (ra_25 ((a * 16) + b)).1 (by omega) e21
    have CM20 : gC sz M20 := gC.set C (ra_25 ((a * 16) + b)).2.1 e21
    exact hq _ _ _ dX5_write_49 ⟨IM20, CM20, (gFr.s gFr.rf e21 (ra_25 ((a * 16) + b)).2.2 rfl)⟩
theorem dX5_sum_0 : decode cX5_sum 0 = .ok (.aload_n 0, 1) := dc_42 (by decide +kernel)
theorem dX5_sum_1 : decode cX5_sum 1 = .ok (.getfield 9, 3) := dc_180 0 9 (by decide +kernel)
theorem dX5_sum_4 : decode cX5_sum 4 = .ok (.iload_n 1, 1) := dc_27 (by decide +kernel)
theorem dX5_sum_5 : decode cX5_sum 5 = .ok (.bipush 7, 2) := dc_16 7 7 (by decide +kernel)
theorem dX5_sum_7 : decode cX5_sum 7 = .ok (.imul, 1) := dc_104 (by decide +kernel)
theorem dX5_sum_8 : decode cX5_sum 8 = .ok (.iload_n 2, 1) := dc_28 (by decide +kernel)
theorem dX5_sum_9 : decode cX5_sum 9 = .ok (.iadd, 1) := dc_96 (by decide +kernel)
theorem dX5_sum_10 : decode cX5_sum 10 = .ok (.iaload, 1) := dc_46 (by decide +kernel)
theorem dX5_sum_11 : decode cX5_sum 11 = .ok (.ireturn, 1) := dc_172 (by decide +kernel)
abbrev R_X5_sum : Room := { frames := 0, cells := 0, slots := 0, locals := 0 }
set_option maxRecDepth 100000 in
set_option maxHeartbeats 4000000 in
theorem s_X5_sum {l : Launch} {n0 : Nat} {D : va_G} {cA : Nat → ClassId} {M : gM} (a : Int) (r_a : 0 ≤ a ∧ a ≤ 299) (b : Int) (r_b : 0 ≤ b ∧ b ≤ 6) {sz : Nat} (hsz : 206 ≤ sz) (I : gI sz M) (C : gC sz M)   : Met l yX5_sum (gWsOf yX5_sum cX5_sum 3 (Option.some Jvm.ClassFile.FieldType.int)) R_X5_sum (gPc n0 D cA [gA n0 23, gJ a, gJ b] M sz) (gQi n0 D cA sz (fun z M1 => M = M1 ∧ (-2147483648 ≤ z ∧ z ≤ 2147483647))) 0 0 (fun q => n0 ≤ q) := by
  refine gMetI [gA n0 23, gJ a, gJ b] (by decide) (Nat.le_of_ble_eq_true rfl) ⟨rfl, rfl⟩ ?_
  intro p e s m args below meth cd Q X hq
  have X : gCx p s m args meth cd n0 D cA "ParishUnion$Past" cX5_sum 3 := X
  show G p l e R_X5_sum s m args below meth cd n0 D cA 3 Q 0 0 M sz 0 [(0, gA n0 23), (1, gJ a), (2, gJ b)] []
  refine g_aload_n (n := 1) X 0 dX5_sum_0 rfl rfl rfl ?_
  refine gg_5_0 (n := 4) (z := 24) X (by decide) (gsz hsz (by decide)) lay_23 kw_1_142 dX5_sum_1 rfl (rf_23_0 I (gsz hsz (by decide))) (by decide) ?_
  refine g_iload_n (n := 5) X 1 dX5_sum_4 rfl rfl rfl ?_
  refine g_bipush (n := 7) X dX5_sum_5 (by decide +kernel) rfl ?_
  refine g_imul (n := 8) (z := a * 7) X dX5_sum_7 rfl rfl ?_
  refine g_iload_n (n := 9) X 2 dX5_sum_8 rfl rfl rfl ?_
  refine g_iadd (n := 10) (z := (a * 7) + b) X dX5_sum_9 rfl rfl ?_
  obtain ⟨v1, hv1, rv1⟩ := gRd I (by decide) (gsz hsz (by decide)) (ra_24 ((a * 7) + b)).1
  refine g_iald2 (n := 11) (v := v1) X (by decide) (gsz hsz (by decide)) lay_24 (by omega) (by omega) (by decide) dX5_sum_10 rfl hv1 ?_
  exact hq _ _ _ _ dX5_sum_11 ⟨rfl, by omega⟩
theorem dX5_close_0 : decode cX5_close 0 = .ok (.iload_n 1, 1) := dc_27 (by decide +kernel)
theorem dX5_close_1 : decode cX5_close 1 = .ok (.ifCond .le 15, 3) := dc_158 0 15 15 (by decide +kernel)
theorem dX5_close_16 : decode cX5_close 16 = .ok (.iconst 0, 1) := dc_3 (by decide +kernel)
theorem dX5_close_17 : decode cX5_close 17 = .ok (.istore_n 2, 1) := dc_61 (by decide +kernel)
theorem dX5_close_18 : decode cX5_close 18 = .ok (.aload_n 0, 1) := dc_42 (by decide +kernel)
theorem dX5_close_19 : decode cX5_close 19 = .ok (.iload_n 1, 1) := dc_27 (by decide +kernel)
theorem dX5_close_20 : decode cX5_close 20 = .ok (.bipush 6, 2) := dc_16 6 6 (by decide +kernel)
theorem dX5_close_22 : decode cX5_close 22 = .ok (.iload_n 2, 1) := dc_28 (by decide +kernel)
theorem dX5_close_23 : decode cX5_close 23 = .ok (.aload_n 0, 1) := dc_42 (by decide +kernel)
theorem dX5_close_24 : decode cX5_close 24 = .ok (.iload_n 1, 1) := dc_27 (by decide +kernel)
theorem dX5_close_25 : decode cX5_close 25 = .ok (.iconst 2, 1) := dc_5 (by decide +kernel)
theorem dX5_close_26 : decode cX5_close 26 = .ok (.invokevirtual 45, 3) := dc_182 0 45 (by decide +kernel)
theorem kw_5_5 : (Jvm.Cond.methodLink "ParishUnion$Past" (45 : Nat) ({ cls := "ParishUnion$Past", name := "sum", desc := "(II)I" } : Jvm.MethodName)) ∈ gT := gT_of (tb_5 _ (List.mem_of_getElem? (i := 5) rfl)) rfl
theorem kw_4_180 : (Jvm.Cond.code ({ cls := "ParishUnion$Past", name := "sum", desc := "(II)I" } : Jvm.MethodName) prog_7_method_7_code (3 : Nat) (Option.some Jvm.ClassFile.FieldType.int)) ∈ gT := gT_of (tb_4 _ (List.mem_of_getElem? (i := 180) rfl)) rfl
theorem kw_1_6 : (Jvm.Cond.initialized "ParishUnion$Past") ∈ gT := gT_of (tb_1 _ (List.mem_of_getElem? (i := 6) rfl)) rfl
theorem okX5_sum : gQok yX5_sum cX5_sum 3 (Option.some Jvm.ClassFile.FieldType.int) 2 := ⟨kw_4_180, kw_1_6, by decide +kernel, by decide +kernel, by decide +kernel⟩
theorem kw_4_178 : (Jvm.Cond.instanceMethod ({ cls := "ParishUnion$Past", name := "sum", desc := "(II)I" } : Jvm.MethodName)) ∈ gT := gT_of (tb_4 _ (List.mem_of_getElem? (i := 178) rfl)) rfl
theorem kw_4_179 : (Jvm.Cond.selects "ParishUnion$Past" ({ cls := "ParishUnion$Past", name := "sum", desc := "(II)I" } : Jvm.MethodName) ({ cls := "ParishUnion$Past", name := "sum", desc := "(II)I" } : Jvm.MethodName)) ∈ gT := gT_of (tb_4 _ (List.mem_of_getElem? (i := 179) rfl)) rfl
theorem dX5_close_29 : decode cX5_close 29 = .ok (.iadd, 1) := dc_96 (by decide +kernel)
theorem dX5_close_30 : decode cX5_close 30 = .ok (.aload_n 0, 1) := dc_42 (by decide +kernel)
theorem dX5_close_31 : decode cX5_close 31 = .ok (.iload_n 1, 1) := dc_27 (by decide +kernel)
theorem dX5_close_32 : decode cX5_close 32 = .ok (.iconst 3, 1) := dc_6 (by decide +kernel)
theorem dX5_close_33 : decode cX5_close 33 = .ok (.invokevirtual 45, 3) := dc_182 0 45 (by decide +kernel)
theorem dX5_close_36 : decode cX5_close 36 = .ok (.iadd, 1) := dc_96 (by decide +kernel)
theorem dX5_close_37 : decode cX5_close 37 = .ok (.invokevirtual 49, 3) := dc_182 0 49 (by decide +kernel)
theorem kw_5_6 : (Jvm.Cond.methodLink "ParishUnion$Past" (49 : Nat) ({ cls := "ParishUnion$Past", name := "add", desc := "(III)V" } : Jvm.MethodName)) ∈ gT := gT_of (tb_5 _ (List.mem_of_getElem? (i := 6) rfl)) rfl
theorem kw_4_208 : (Jvm.Cond.code ({ cls := "ParishUnion$Past", name := "add", desc := "(III)V" } : Jvm.MethodName) prog_7_method_4_code (4 : Nat) (Option.none : Option Jvm.ClassFile.FieldType)) ∈ gT := gT_of (tb_4 _ (List.mem_of_getElem? (i := 208) rfl)) rfl
theorem okX5_add : gQok yX5_add cX5_add 4 (Option.none : Option Jvm.ClassFile.FieldType) 3 := ⟨kw_4_208, kw_1_6, by decide +kernel, by decide +kernel, by decide +kernel⟩
theorem kw_4_206 : (Jvm.Cond.instanceMethod ({ cls := "ParishUnion$Past", name := "add", desc := "(III)V" } : Jvm.MethodName)) ∈ gT := gT_of (tb_4 _ (List.mem_of_getElem? (i := 206) rfl)) rfl
theorem kw_4_207 : (Jvm.Cond.selects "ParishUnion$Past" ({ cls := "ParishUnion$Past", name := "add", desc := "(III)V" } : Jvm.MethodName) ({ cls := "ParishUnion$Past", name := "add", desc := "(III)V" } : Jvm.MethodName)) ∈ gT := gT_of (tb_4 _ (List.mem_of_getElem? (i := 207) rfl)) rfl
theorem dX5_close_40 : decode cX5_close 40 = .ok (.return_, 1) := dc_177 (by decide +kernel)
theorem dX5_close_4 : decode cX5_close 4 = .ok (.aload_n 0, 1) := dc_42 (by decide +kernel)
theorem dX5_close_5 : decode cX5_close 5 = .ok (.iload_n 1, 1) := dc_27 (by decide +kernel)
theorem dX5_close_6 : decode cX5_close 6 = .ok (.iconst 1, 1) := dc_4 (by decide +kernel)
theorem dX5_close_7 : decode cX5_close 7 = .ok (.isub, 1) := dc_100 (by decide +kernel)
theorem dX5_close_8 : decode cX5_close 8 = .ok (.bipush 6, 2) := dc_16 6 6 (by decide +kernel)
theorem dX5_close_10 : decode cX5_close 10 = .ok (.invokevirtual 45, 3) := dc_182 0 45 (by decide +kernel)
theorem dX5_close_13 : decode cX5_close 13 = .ok (.goto 4, 3) := dc_167 0 4 4 (by decide +kernel)
abbrev R_X5_close : Room := { frames := 1, cells := 0, slots := 0, locals := 23 }
set_option maxRecDepth 100000 in
set_option maxHeartbeats 4000000 in
theorem s_X5_close {l : Launch} {n0 : Nat} {D : va_G} {cA : Nat → ClassId} {M : gM} (a : Int) (r_a : 0 ≤ a ∧ a ≤ 299) {sz : Nat} (hsz : 206 ≤ sz) (I : gI sz M) (C : gC sz M)   : Met l yX5_close (gWsOf yX5_close cX5_close 3 (Option.none : Option Jvm.ClassFile.FieldType)) R_X5_close (gPc n0 D cA [gA n0 23, gJ a] M sz) (gQv n0 D cA sz (fun M1 => gI sz M1 ∧ gC sz M1 ∧ gFr 65536 M M1)) 0 0 (fun q => n0 ≤ q) := by
  refine gMetV [gA n0 23, gJ a] (by decide) (Nat.le_of_ble_eq_true rfl) ⟨rfl, rfl⟩ ?_
  intro p e s m args below meth cd Q X hq
  have X : gCx p s m args meth cd n0 D cA "ParishUnion$Past" cX5_close 3 := X
  show G p l e R_X5_close s m args below meth cd n0 D cA 3 Q 0 0 M sz 0 [(0, gA n0 23), (1, gJ a)] []
  refine g_iload_n (n := 1) X 1 dX5_close_0 rfl rfl rfl ?_
  refine g_if_le (n := 4) (tgt := 16) X dX5_close_1 (by decide) (by omega) rfl (fun c1 => ?_) (fun c1 => ?_)
  · refine g_iconst (n := 17) X dX5_close_16 rfl ?_
    refine g_istore_n (n := 18) (L' := [(2, gJ 0), (0, gA n0 23), (1, gJ a)]) X dX5_close_17 rfl (by decide) rfl rfl ?_
    refine g_aload_n (n := 19) X 1 dX5_close_18 rfl rfl rfl ?_
    refine g_iload_n (n := 20) X 2 dX5_close_19 rfl rfl rfl ?_
    refine g_bipush (n := 22) X dX5_close_20 (by decide +kernel) rfl ?_
    refine g_iload_n (n := 23) X 0 dX5_close_22 rfl rfl rfl ?_
    refine g_aload_n (n := 24) X 1 dX5_close_23 rfl rfl rfl ?_
    refine g_iload_n (n := 25) X 2 dX5_close_24 rfl rfl rfl ?_
    refine g_iconst (n := 26) X dX5_close_25 rfl ?_
    refine g_callVi (n := 29) (As := [gJ a, gJ 2]) (rest := [gJ 0, gJ 6, gJ a, gA n0 23]) (cs1 := 0) (ss1 := 0) X (s_X5_sum a (by omega) 2 (by omega) hsz I C ) okX5_sum kw_5_5 ⟨kw_4_178, kw_4_179⟩ ⟨rfl, rfl⟩ ⟨Nat.le_of_ble_eq_true rfl, Nat.le_of_ble_eq_true rfl⟩ rfl (by decide) (gsz hsz (by decide)) lay_23 rfl rfl (Nat.le_of_ble_eq_true rfl) ⟨Nat.le_of_ble_eq_true rfl, Nat.le_of_ble_eq_true rfl⟩ rfl rfl dX5_close_26 rfl (fun v2 M3 P4 => ?_)
    obtain ⟨rfl, rv2⟩ := P4
    refine g_iadd (n := 30) (z := v2) X dX5_close_29 (by omega) rfl ?_
    refine g_aload_n (n := 31) X 1 dX5_close_30 rfl rfl rfl ?_
    refine g_iload_n (n := 32) X 2 dX5_close_31 rfl rfl rfl ?_
    refine g_iconst (n := 33) X dX5_close_32 rfl ?_
    refine g_callVi (n := 36) (As := [gJ a, gJ 3]) (rest := [gJ v2, gJ 6, gJ a, gA n0 23]) (cs1 := 0) (ss1 := 0) X (s_X5_sum a (by omega) 3 (by omega) hsz I C ) okX5_sum kw_5_5 ⟨kw_4_178, kw_4_179⟩ ⟨rfl, rfl⟩ ⟨Nat.le_of_ble_eq_true rfl, Nat.le_of_ble_eq_true rfl⟩ rfl (by decide) (gsz hsz (by decide)) lay_23 rfl rfl (Nat.le_of_ble_eq_true rfl) ⟨Nat.le_of_ble_eq_true rfl, Nat.le_of_ble_eq_true rfl⟩ rfl rfl dX5_close_33 rfl (fun v5 M6 P7 => ?_)
    obtain ⟨rfl, rv5⟩ := P7
    refine g_iaddA (n := 37) X dX5_close_36 rfl (fun v8 rv8 xv8 => ?_)
    clear xv8
    refine g_callVv (n := 40) (As := [gJ a, gJ 6, gJ v8]) (rest := []) (cs1 := 0) (ss1 := 0) X (s_X5_add a (by omega) 6 (by omega) v8 (by omega) hsz I C ) okX5_add kw_5_6 ⟨kw_4_206, kw_4_207⟩ ⟨rfl, rfl⟩ ⟨Nat.le_of_ble_eq_true rfl, Nat.le_of_ble_eq_true rfl⟩ rfl (by decide) (gsz hsz (by decide)) lay_23 rfl rfl (Nat.le_of_ble_eq_true rfl) ⟨Nat.le_of_ble_eq_true rfl, Nat.le_of_ble_eq_true rfl⟩ rfl rfl dX5_close_37 rfl (fun M10 P11 => ?_)
    obtain ⟨IM10, CM10, FM10⟩ := P11
    exact hq _ _ _ dX5_close_40 ⟨IM10, CM10, (gFr.c gFr.rf FM10 rfl)⟩
  · refine g_aload_n (n := 5) X 0 dX5_close_4 rfl rfl rfl ?_
    refine g_iload_n (n := 6) X 1 dX5_close_5 rfl rfl rfl ?_
    refine g_iconst (n := 7) X dX5_close_6 rfl ?_
    refine g_isub (n := 8) (z := a - 1) X dX5_close_7 (by omega) rfl ?_
    refine g_bipush (n := 10) X dX5_close_8 (by decide +kernel) rfl ?_
    refine g_callVi (n := 13) (As := [gJ (a - 1), gJ 6]) (rest := []) (cs1 := 0) (ss1 := 0) X (s_X5_sum (a - 1) (by omega) 6 (by omega) hsz I C ) okX5_sum kw_5_5 ⟨kw_4_178, kw_4_179⟩ ⟨rfl, rfl⟩ ⟨Nat.le_of_ble_eq_true rfl, Nat.le_of_ble_eq_true rfl⟩ rfl (by decide) (gsz hsz (by decide)) lay_23 rfl rfl (Nat.le_of_ble_eq_true rfl) ⟨Nat.le_of_ble_eq_true rfl, Nat.le_of_ble_eq_true rfl⟩ rfl rfl dX5_close_10 rfl (fun v12 M13 P14 => ?_)
    obtain ⟨rfl, rv12⟩ := P14
    refine g_goto (tgt := 17) X dX5_close_13 (by decide) ?_
    refine g_istore_n (n := 18) (L' := [(2, gJ v12), (0, gA n0 23), (1, gJ a)]) X dX5_close_17 rfl (by decide) rfl rfl ?_
    refine g_aload_n (n := 19) X 1 dX5_close_18 rfl rfl rfl ?_
    refine g_iload_n (n := 20) X 2 dX5_close_19 rfl rfl rfl ?_
    refine g_bipush (n := 22) X dX5_close_20 (by decide +kernel) rfl ?_
    refine g_iload_n (n := 23) X 0 dX5_close_22 rfl rfl rfl ?_
    refine g_aload_n (n := 24) X 1 dX5_close_23 rfl rfl rfl ?_
    refine g_iload_n (n := 25) X 2 dX5_close_24 rfl rfl rfl ?_
    refine g_iconst (n := 26) X dX5_close_25 rfl ?_
    refine g_callVi (n := 29) (As := [gJ a, gJ 2]) (rest := [gJ v12, gJ 6, gJ a, gA n0 23]) (cs1 := 0) (ss1 := 0) X (s_X5_sum a (by omega) 2 (by omega) hsz I C ) okX5_sum kw_5_5 ⟨kw_4_178, kw_4_179⟩ ⟨rfl, rfl⟩ ⟨Nat.le_of_ble_eq_true rfl, Nat.le_of_ble_eq_true rfl⟩ rfl (by decide) (gsz hsz (by decide)) lay_23 rfl rfl (Nat.le_of_ble_eq_true rfl) ⟨Nat.le_of_ble_eq_true rfl, Nat.le_of_ble_eq_true rfl⟩ rfl rfl dX5_close_26 rfl (fun v15 M16 P17 => ?_)
    obtain ⟨rfl, rv15⟩ := P17
    refine g_iaddA (n := 30) X dX5_close_29 rfl (fun v18 rv18 xv18 => ?_)
    clear xv18
    refine g_aload_n (n := 31) X 1 dX5_close_30 rfl rfl rfl ?_
    refine g_iload_n (n := 32) X 2 dX5_close_31 rfl rfl rfl ?_
    refine g_iconst (n := 33) X dX5_close_32 rfl ?_
    refine g_callVi (n := 36) (As := [gJ a, gJ 3]) (rest := [gJ v18, gJ 6, gJ a, gA n0 23]) (cs1 := 0) (ss1 := 0) X (s_X5_sum a (by omega) 3 (by omega) hsz I C ) okX5_sum kw_5_5 ⟨kw_4_178, kw_4_179⟩ ⟨rfl, rfl⟩ ⟨Nat.le_of_ble_eq_true rfl, Nat.le_of_ble_eq_true rfl⟩ rfl (by decide) (gsz hsz (by decide)) lay_23 rfl rfl (Nat.le_of_ble_eq_true rfl) ⟨Nat.le_of_ble_eq_true rfl, Nat.le_of_ble_eq_true rfl⟩ rfl rfl dX5_close_33 rfl (fun v19 M20 P21 => ?_)
    obtain ⟨rfl, rv19⟩ := P21
    refine g_iaddA (n := 37) X dX5_close_36 rfl (fun v22 rv22 xv22 => ?_)
    clear xv22
    refine g_callVv (n := 40) (As := [gJ a, gJ 6, gJ v22]) (rest := []) (cs1 := 0) (ss1 := 0) X (s_X5_add a (by omega) 6 (by omega) v22 (by omega) hsz I C ) okX5_add kw_5_6 ⟨kw_4_206, kw_4_207⟩ ⟨rfl, rfl⟩ ⟨Nat.le_of_ble_eq_true rfl, Nat.le_of_ble_eq_true rfl⟩ rfl (by decide) (gsz hsz (by decide)) lay_23 rfl rfl (Nat.le_of_ble_eq_true rfl) ⟨Nat.le_of_ble_eq_true rfl, Nat.le_of_ble_eq_true rfl⟩ rfl rfl dX5_close_37 rfl (fun M24 P25 => ?_)
    obtain ⟨IM24, CM24, FM24⟩ := P25
    exact hq _ _ _ dX5_close_40 ⟨IM24, CM24, (gFr.c gFr.rf FM24 rfl)⟩
theorem dX5_mark_0 : decode cX5_mark 0 = .ok (.aload_n 0, 1) := dc_42 (by decide +kernel)
theorem dX5_mark_1 : decode cX5_mark 1 = .ok (.getfield 15, 3) := dc_180 0 15 (by decide +kernel)
theorem dX5_mark_4 : decode cX5_mark 4 = .ok (.iload_n 1, 1) := dc_27 (by decide +kernel)
theorem dX5_mark_5 : decode cX5_mark 5 = .ok (.bipush 16, 2) := dc_16 16 16 (by decide +kernel)
theorem dX5_mark_7 : decode cX5_mark 7 = .ok (.imul, 1) := dc_104 (by decide +kernel)
theorem dX5_mark_8 : decode cX5_mark 8 = .ok (.iload_n 2, 1) := dc_28 (by decide +kernel)
theorem dX5_mark_9 : decode cX5_mark 9 = .ok (.iadd, 1) := dc_96 (by decide +kernel)
theorem dX5_mark_10 : decode cX5_mark 10 = .ok (.laload, 1) := dc_47 (by decide +kernel)
theorem dX5_mark_11 : decode cX5_mark 11 = .ok (.lreturn, 1) := dc_173 (by decide +kernel)
abbrev R_X5_mark : Room := { frames := 0, cells := 0, slots := 0, locals := 0 }
set_option maxRecDepth 100000 in
set_option maxHeartbeats 4000000 in
theorem s_X5_mark {l : Launch} {n0 : Nat} {D : va_G} {cA : Nat → ClassId} {M : gM} (a : Int) (r_a : 0 ≤ a ∧ a ≤ 299) (b : Int) (r_b : 0 ≤ b ∧ b ≤ 15) {sz : Nat} (hsz : 206 ≤ sz) (I : gI sz M) (C : gC sz M)   : Met l yX5_mark (gWsOf yX5_mark cX5_mark 3 (Option.some Jvm.ClassFile.FieldType.long)) R_X5_mark (gPc n0 D cA [gA n0 23, gJ a, gJ b] M sz) (gQl n0 D cA sz (fun z M1 => M = M1 ∧ (-9223372036854775808 ≤ z ∧ z ≤ 9223372036854775807))) 0 0 (fun q => n0 ≤ q) := by
  refine gMetL [gA n0 23, gJ a, gJ b] (by decide) (Nat.le_of_ble_eq_true rfl) ⟨rfl, rfl⟩ ?_
  intro p e s m args below meth cd Q X hq
  have X : gCx p s m args meth cd n0 D cA "ParishUnion$Past" cX5_mark 3 := X
  show G p l e R_X5_mark s m args below meth cd n0 D cA 3 Q 0 0 M sz 0 [(0, gA n0 23), (1, gJ a), (2, gJ b)] []
  refine g_aload_n (n := 1) X 0 dX5_mark_0 rfl rfl rfl ?_
  refine gg_5_1 (n := 4) (z := 25) X (by decide) (gsz hsz (by decide)) lay_23 kw_1_143 dX5_mark_1 rfl (rf_23_1 I (gsz hsz (by decide))) (by decide) ?_
  refine g_iload_n (n := 5) X 1 dX5_mark_4 rfl rfl rfl ?_
  refine g_bipush (n := 7) X dX5_mark_5 (by decide +kernel) rfl ?_
  refine g_imul (n := 8) (z := a * 16) X dX5_mark_7 rfl rfl ?_
  refine g_iload_n (n := 9) X 2 dX5_mark_8 rfl rfl rfl ?_
  refine g_iadd (n := 10) (z := (a * 16) + b) X dX5_mark_9 rfl rfl ?_
  obtain ⟨v1, hv1, rv1⟩ := gRd I (by decide) (gsz hsz (by decide)) (ra_25 ((a * 16) + b)).1
  refine g_lald2 (n := 11) (v := v1) X (by decide) (gsz hsz (by decide)) lay_25 (by omega) (by omega) (by decide) dX5_mark_10 rfl hv1 ?_
  exact hq _ _ _ _ dX5_mark_11 ⟨rfl, by omega⟩
theorem dX5_wasThere_0 : decode cX5_wasThere 0 = .ok (.aload_n 0, 1) := dc_42 (by decide +kernel)
theorem dX5_wasThere_1 : decode cX5_wasThere 1 = .ok (.iload_n 1, 1) := dc_27 (by decide +kernel)
theorem dX5_wasThere_2 : decode cX5_wasThere 2 = .ok (.iload_n 2, 1) := dc_28 (by decide +kernel)
theorem dX5_wasThere_3 : decode cX5_wasThere 3 = .ok (.invokevirtual 53, 3) := dc_182 0 53 (by decide +kernel)
theorem kw_5_28 : (Jvm.Cond.methodLink "ParishUnion$Past" (53 : Nat) ({ cls := "ParishUnion$Past", name := "mark", desc := "(II)J" } : Jvm.MethodName)) ∈ gT := gT_of (tb_5 _ (List.mem_of_getElem? (i := 28) rfl)) rfl
theorem kw_5_31 : (Jvm.Cond.code ({ cls := "ParishUnion$Past", name := "mark", desc := "(II)J" } : Jvm.MethodName) prog_7_method_8_code (3 : Nat) (Option.some Jvm.ClassFile.FieldType.long)) ∈ gT := gT_of (tb_5 _ (List.mem_of_getElem? (i := 31) rfl)) rfl
theorem okX5_mark : gQok yX5_mark cX5_mark 3 (Option.some Jvm.ClassFile.FieldType.long) 2 := ⟨kw_5_31, kw_1_6, by decide +kernel, by decide +kernel, by decide +kernel⟩
theorem kw_5_30 : (Jvm.Cond.instanceMethod ({ cls := "ParishUnion$Past", name := "mark", desc := "(II)J" } : Jvm.MethodName)) ∈ gT := gT_of (tb_5 _ (List.mem_of_getElem? (i := 30) rfl)) rfl
theorem kw_0_29 : (Jvm.Cond.selects "ParishUnion$Past" ({ cls := "ParishUnion$Past", name := "mark", desc := "(II)J" } : Jvm.MethodName) ({ cls := "ParishUnion$Past", name := "mark", desc := "(II)J" } : Jvm.MethodName)) ∈ gT := gT_of (tb_0 _ (List.mem_of_getElem? (i := 29) rfl)) rfl
theorem dX5_wasThere_6 : decode cX5_wasThere 6 = .ok (.ldc2_w 25, 3) := dc_20 0 25 (by decide +kernel)
theorem dX5_wasThere_9 : decode cX5_wasThere 9 = .ok (.lcmp, 1) := dc_148 (by decide +kernel)
theorem dX5_wasThere_10 : decode cX5_wasThere 10 = .ok (.ifCond .eq 7, 3) := dc_153 0 7 7 (by decide +kernel)
theorem dX5_wasThere_17 : decode cX5_wasThere 17 = .ok (.iconst 0, 1) := dc_3 (by decide +kernel)
theorem dX5_wasThere_18 : decode cX5_wasThere 18 = .ok (.ireturn, 1) := dc_172 (by decide +kernel)
theorem dX5_wasThere_13 : decode cX5_wasThere 13 = .ok (.iconst 1, 1) := dc_4 (by decide +kernel)
theorem dX5_wasThere_14 : decode cX5_wasThere 14 = .ok (.goto 4, 3) := dc_167 0 4 4 (by decide +kernel)
abbrev R_X5_wasThere : Room := { frames := 1, cells := 0, slots := 0, locals := 22 }
set_option maxRecDepth 100000 in
set_option maxHeartbeats 4000000 in
theorem s_X5_wasThere {l : Launch} {n0 : Nat} {D : va_G} {cA : Nat → ClassId} {M : gM} (a : Int) (r_a : 0 ≤ a ∧ a ≤ 299) (b : Int) (r_b : 0 ≤ b ∧ b ≤ 15) {sz : Nat} (hsz : 206 ≤ sz) (I : gI sz M) (C : gC sz M)   : Met l yX5_wasThere (gWsOf yX5_wasThere cX5_wasThere 3 (Option.some Jvm.ClassFile.FieldType.boolean)) R_X5_wasThere (gPc n0 D cA [gA n0 23, gJ a, gJ b] M sz) (gQi n0 D cA sz (fun z M1 => M = M1 ∧ (0 ≤ z ∧ z ≤ 1))) 0 0 (fun q => n0 ≤ q) := by
  refine gMetZ [gA n0 23, gJ a, gJ b] (by decide) (Nat.le_of_ble_eq_true rfl) ⟨rfl, rfl⟩ ?_
  intro p e s m args below meth cd Q X hq
  have X : gCx p s m args meth cd n0 D cA "ParishUnion$Past" cX5_wasThere 3 := X
  show G p l e R_X5_wasThere s m args below meth cd n0 D cA 3 Q 0 0 M sz 0 [(0, gA n0 23), (1, gJ a), (2, gJ b)] []
  refine g_aload_n (n := 1) X 0 dX5_wasThere_0 rfl rfl rfl ?_
  refine g_iload_n (n := 2) X 1 dX5_wasThere_1 rfl rfl rfl ?_
  refine g_iload_n (n := 3) X 2 dX5_wasThere_2 rfl rfl rfl ?_
  refine g_callVl (n := 6) (As := [gJ a, gJ b]) (rest := []) (cs1 := 0) (ss1 := 0) X (s_X5_mark a (by omega) b (by omega) hsz I C ) okX5_mark kw_5_28 ⟨kw_5_30, kw_0_29⟩ ⟨rfl, rfl⟩ ⟨Nat.le_of_ble_eq_true rfl, Nat.le_of_ble_eq_true rfl⟩ rfl (by decide) (gsz hsz (by decide)) lay_23 rfl rfl (Nat.le_of_ble_eq_true rfl) ⟨Nat.le_of_ble_eq_true rfl, Nat.le_of_ble_eq_true rfl⟩ rfl rfl dX5_wasThere_3 rfl (fun v1 M2 P3 => ?_)
  obtain ⟨rfl, rv1⟩ := P3
  refine g_ldc2 (n := 9) (z := (-1)) X dX5_wasThere_6 kw_4_193 (by decide +kernel) rfl ?_
  refine g_lcmp2 (n := 10) X dX5_wasThere_9 (by omega) (by omega) rfl (fun v4 xv4 rv4 => ?_)
  refine g_if_eq (n := 13) (tgt := 17) X dX5_wasThere_10 (by decide) (by omega) rfl (fun c5 => ?_) (fun c5 => ?_)
  · refine g_iconst (n := 18) X dX5_wasThere_17 rfl ?_
    exact hq _ _ _ _ dX5_wasThere_18 (by omega) ⟨rfl, by omega⟩
  · refine g_iconst (n := 14) X dX5_wasThere_13 rfl ?_
    refine g_goto (tgt := 18) X dX5_wasThere_14 (by decide) ?_
    exact hq _ _ _ _ dX5_wasThere_18 (by omega) ⟨rfl, by omega⟩
theorem dX5_placeOf_0 : decode cX5_placeOf 0 = .ok (.aload_n 0, 1) := dc_42 (by decide +kernel)
theorem dX5_placeOf_1 : decode cX5_placeOf 1 = .ok (.iload_n 1, 1) := dc_27 (by decide +kernel)
theorem dX5_placeOf_2 : decode cX5_placeOf 2 = .ok (.iload_n 2, 1) := dc_28 (by decide +kernel)
theorem dX5_placeOf_3 : decode cX5_placeOf 3 = .ok (.invokevirtual 53, 3) := dc_182 0 53 (by decide +kernel)
theorem dX5_placeOf_6 : decode cX5_placeOf 6 = .ok (.ldc2_w 57, 3) := dc_20 0 57 (by decide +kernel)
theorem kw_5_36 : (Jvm.Cond.constantLong "ParishUnion$Past" (57 : Nat) (15 : Int64)) ∈ gT := gT_of (tb_5 _ (List.mem_of_getElem? (i := 36) rfl)) rfl
theorem dX5_placeOf_9 : decode cX5_placeOf 9 = .ok (.land, 1) := dc_127 (by decide +kernel)
theorem dX5_placeOf_10 : decode cX5_placeOf 10 = .ok (.l2i, 1) := dc_136 (by decide +kernel)
theorem dX5_placeOf_11 : decode cX5_placeOf 11 = .ok (.ireturn, 1) := dc_172 (by decide +kernel)
abbrev R_X5_placeOf : Room := { frames := 1, cells := 0, slots := 0, locals := 22 }
set_option maxRecDepth 100000 in
set_option maxHeartbeats 4000000 in
theorem s_X5_placeOf {l : Launch} {n0 : Nat} {D : va_G} {cA : Nat → ClassId} {M : gM} (a : Int) (r_a : 0 ≤ a ∧ a ≤ 299) (b : Int) (r_b : 0 ≤ b ∧ b ≤ 15) {sz : Nat} (hsz : 206 ≤ sz) (I : gI sz M) (C : gC sz M)   : Met l yX5_placeOf (gWsOf yX5_placeOf cX5_placeOf 3 (Option.some Jvm.ClassFile.FieldType.int)) R_X5_placeOf (gPc n0 D cA [gA n0 23, gJ a, gJ b] M sz) (gQi n0 D cA sz (fun z M1 => M = M1 ∧ (0 ≤ z ∧ z ≤ 15))) 0 0 (fun q => n0 ≤ q) := by
  refine gMetI [gA n0 23, gJ a, gJ b] (by decide) (Nat.le_of_ble_eq_true rfl) ⟨rfl, rfl⟩ ?_
  intro p e s m args below meth cd Q X hq
  have X : gCx p s m args meth cd n0 D cA "ParishUnion$Past" cX5_placeOf 3 := X
  show G p l e R_X5_placeOf s m args below meth cd n0 D cA 3 Q 0 0 M sz 0 [(0, gA n0 23), (1, gJ a), (2, gJ b)] []
  refine g_aload_n (n := 1) X 0 dX5_placeOf_0 rfl rfl rfl ?_
  refine g_iload_n (n := 2) X 1 dX5_placeOf_1 rfl rfl rfl ?_
  refine g_iload_n (n := 3) X 2 dX5_placeOf_2 rfl rfl rfl ?_
  refine g_callVl (n := 6) (As := [gJ a, gJ b]) (rest := []) (cs1 := 0) (ss1 := 0) X (s_X5_mark a (by omega) b (by omega) hsz I C ) okX5_mark kw_5_28 ⟨kw_5_30, kw_0_29⟩ ⟨rfl, rfl⟩ ⟨Nat.le_of_ble_eq_true rfl, Nat.le_of_ble_eq_true rfl⟩ rfl (by decide) (gsz hsz (by decide)) lay_23 rfl rfl (Nat.le_of_ble_eq_true rfl) ⟨Nat.le_of_ble_eq_true rfl, Nat.le_of_ble_eq_true rfl⟩ rfl rfl dX5_placeOf_3 rfl (fun v1 M2 P3 => ?_)
  obtain ⟨rfl, rv1⟩ := P3
  refine g_ldc2 (n := 9) (z := 15) X dX5_placeOf_6 kw_5_36 (by decide +kernel) rfl ?_
  refine g_landC (n := 10) X dX5_placeOf_9 (by decide) rfl (fun v4 rv4 xv4 => ?_)
  clear xv4
  refine g_l2iE (n := 11) (z := v4) X dX5_placeOf_10 (g_l2i (by omega)) rfl ?_
  exact hq _ _ _ _ dX5_placeOf_11 ⟨rfl, by omega⟩
theorem dX5_hasAsked_0 : decode cX5_hasAsked 0 = .ok (.aload_n 0, 1) := dc_42 (by decide +kernel)
theorem dX5_hasAsked_1 : decode cX5_hasAsked 1 = .ok (.iload_n 1, 1) := dc_27 (by decide +kernel)
theorem dX5_hasAsked_2 : decode cX5_hasAsked 2 = .ok (.iload_n 2, 1) := dc_28 (by decide +kernel)
theorem dX5_hasAsked_3 : decode cX5_hasAsked 3 = .ok (.invokevirtual 53, 3) := dc_182 0 53 (by decide +kernel)
theorem dX5_hasAsked_6 : decode cX5_hasAsked 6 = .ok (.iconst 4, 1) := dc_7 (by decide +kernel)
theorem dX5_hasAsked_7 : decode cX5_hasAsked 7 = .ok (.lshr, 1) := dc_123 (by decide +kernel)
theorem dX5_hasAsked_8 : decode cX5_hasAsked 8 = .ok (.lconst 1, 1) := dc_10 (by decide +kernel)
theorem dX5_hasAsked_9 : decode cX5_hasAsked 9 = .ok (.land, 1) := dc_127 (by decide +kernel)
theorem dX5_hasAsked_10 : decode cX5_hasAsked 10 = .ok (.lconst 1, 1) := dc_10 (by decide +kernel)
theorem dX5_hasAsked_11 : decode cX5_hasAsked 11 = .ok (.lcmp, 1) := dc_148 (by decide +kernel)
theorem dX5_hasAsked_12 : decode cX5_hasAsked 12 = .ok (.ifCond .ne 7, 3) := dc_154 0 7 7 (by decide +kernel)
theorem dX5_hasAsked_19 : decode cX5_hasAsked 19 = .ok (.iconst 0, 1) := dc_3 (by decide +kernel)
theorem dX5_hasAsked_20 : decode cX5_hasAsked 20 = .ok (.ireturn, 1) := dc_172 (by decide +kernel)
theorem dX5_hasAsked_15 : decode cX5_hasAsked 15 = .ok (.iconst 1, 1) := dc_4 (by decide +kernel)
theorem dX5_hasAsked_16 : decode cX5_hasAsked 16 = .ok (.goto 4, 3) := dc_167 0 4 4 (by decide +kernel)
abbrev R_X5_hasAsked : Room := { frames := 1, cells := 0, slots := 0, locals := 22 }
set_option maxRecDepth 100000 in
set_option maxHeartbeats 4000000 in
theorem s_X5_hasAsked {l : Launch} {n0 : Nat} {D : va_G} {cA : Nat → ClassId} {M : gM} (a : Int) (r_a : 0 ≤ a ∧ a ≤ 299) (b : Int) (r_b : 0 ≤ b ∧ b ≤ 15) {sz : Nat} (hsz : 206 ≤ sz) (I : gI sz M) (C : gC sz M)   : Met l yX5_hasAsked (gWsOf yX5_hasAsked cX5_hasAsked 3 (Option.some Jvm.ClassFile.FieldType.boolean)) R_X5_hasAsked (gPc n0 D cA [gA n0 23, gJ a, gJ b] M sz) (gQi n0 D cA sz (fun z M1 => M = M1 ∧ (0 ≤ z ∧ z ≤ 1))) 0 0 (fun q => n0 ≤ q) := by
  refine gMetZ [gA n0 23, gJ a, gJ b] (by decide) (Nat.le_of_ble_eq_true rfl) ⟨rfl, rfl⟩ ?_
  intro p e s m args below meth cd Q X hq
  have X : gCx p s m args meth cd n0 D cA "ParishUnion$Past" cX5_hasAsked 3 := X
  show G p l e R_X5_hasAsked s m args below meth cd n0 D cA 3 Q 0 0 M sz 0 [(0, gA n0 23), (1, gJ a), (2, gJ b)] []
  refine g_aload_n (n := 1) X 0 dX5_hasAsked_0 rfl rfl rfl ?_
  refine g_iload_n (n := 2) X 1 dX5_hasAsked_1 rfl rfl rfl ?_
  refine g_iload_n (n := 3) X 2 dX5_hasAsked_2 rfl rfl rfl ?_
  refine g_callVl (n := 6) (As := [gJ a, gJ b]) (rest := []) (cs1 := 0) (ss1 := 0) X (s_X5_mark a (by omega) b (by omega) hsz I C ) okX5_mark kw_5_28 ⟨kw_5_30, kw_0_29⟩ ⟨rfl, rfl⟩ ⟨Nat.le_of_ble_eq_true rfl, Nat.le_of_ble_eq_true rfl⟩ rfl (by decide) (gsz hsz (by decide)) lay_23 rfl rfl (Nat.le_of_ble_eq_true rfl) ⟨Nat.le_of_ble_eq_true rfl, Nat.le_of_ble_eq_true rfl⟩ rfl rfl dX5_hasAsked_3 rfl (fun v1 M2 P3 => ?_)
  obtain ⟨rfl, rv1⟩ := P3
  refine g_iconst (n := 7) X dX5_hasAsked_6 rfl ?_
  refine g_lshrA (n := 8) X dX5_hasAsked_7 rfl (fun v4 rv4 xv4 => ?_)
  clear xv4
  refine g_lconst (n := 9) (z := 1) X dX5_hasAsked_8 (by decide +kernel) rfl ?_
  refine g_landC (n := 10) X dX5_hasAsked_9 (by decide) rfl (fun v5 rv5 xv5 => ?_)
  clear xv5
  refine g_lconst (n := 11) (z := 1) X dX5_hasAsked_10 (by decide +kernel) rfl ?_
  refine g_lcmp2 (n := 12) X dX5_hasAsked_11 (by omega) (by omega) rfl (fun v6 xv6 rv6 => ?_)
  refine g_if_ne (n := 15) (tgt := 19) X dX5_hasAsked_12 (by decide) (by omega) rfl (fun c7 => ?_) (fun c7 => ?_)
  · refine g_iconst (n := 20) X dX5_hasAsked_19 rfl ?_
    exact hq _ _ _ _ dX5_hasAsked_20 (by omega) ⟨rfl, by omega⟩
  · refine g_iconst (n := 16) X dX5_hasAsked_15 rfl ?_
    refine g_goto (tgt := 20) X dX5_hasAsked_16 (by decide) ?_
    exact hq _ _ _ _ dX5_hasAsked_20 (by omega) ⟨rfl, by omega⟩
theorem dX5_eatenBy_0 : decode cX5_eatenBy 0 = .ok (.aload_n 0, 1) := dc_42 (by decide +kernel)
theorem dX5_eatenBy_1 : decode cX5_eatenBy 1 = .ok (.iload_n 1, 1) := dc_27 (by decide +kernel)
theorem dX5_eatenBy_2 : decode cX5_eatenBy 2 = .ok (.iload_n 2, 1) := dc_28 (by decide +kernel)
theorem dX5_eatenBy_3 : decode cX5_eatenBy 3 = .ok (.invokevirtual 59, 3) := dc_182 0 59 (by decide +kernel)
theorem kw_5_41 : (Jvm.Cond.methodLink "ParishUnion$Past" (59 : Nat) ({ cls := "ParishUnion$Past", name := "wasThere", desc := "(II)Z" } : Jvm.MethodName)) ∈ gT := gT_of (tb_5 _ (List.mem_of_getElem? (i := 41) rfl)) rfl
theorem kw_5_27 : (Jvm.Cond.code ({ cls := "ParishUnion$Past", name := "wasThere", desc := "(II)Z" } : Jvm.MethodName) prog_7_method_9_code (3 : Nat) (Option.some Jvm.ClassFile.FieldType.boolean)) ∈ gT := gT_of (tb_5 _ (List.mem_of_getElem? (i := 27) rfl)) rfl
theorem okX5_wasThere : gQok yX5_wasThere cX5_wasThere 3 (Option.some Jvm.ClassFile.FieldType.boolean) 2 := ⟨kw_5_27, kw_1_6, by decide +kernel, by decide +kernel, by decide +kernel⟩
theorem kw_5_25 : (Jvm.Cond.instanceMethod ({ cls := "ParishUnion$Past", name := "wasThere", desc := "(II)Z" } : Jvm.MethodName)) ∈ gT := gT_of (tb_5 _ (List.mem_of_getElem? (i := 25) rfl)) rfl
theorem kw_5_26 : (Jvm.Cond.selects "ParishUnion$Past" ({ cls := "ParishUnion$Past", name := "wasThere", desc := "(II)Z" } : Jvm.MethodName) ({ cls := "ParishUnion$Past", name := "wasThere", desc := "(II)Z" } : Jvm.MethodName)) ∈ gT := gT_of (tb_5 _ (List.mem_of_getElem? (i := 26) rfl)) rfl
theorem dX5_eatenBy_6 : decode cX5_eatenBy 6 = .ok (.ifCond .eq 20, 3) := dc_153 0 20 20 (by decide +kernel)
theorem dX5_eatenBy_26 : decode cX5_eatenBy 26 = .ok (.iconst 0, 1) := dc_3 (by decide +kernel)
theorem dX5_eatenBy_27 : decode cX5_eatenBy 27 = .ok (.ireturn, 1) := dc_172 (by decide +kernel)
theorem dX5_eatenBy_9 : decode cX5_eatenBy 9 = .ok (.aload_n 0, 1) := dc_42 (by decide +kernel)
theorem dX5_eatenBy_10 : decode cX5_eatenBy 10 = .ok (.iload_n 1, 1) := dc_27 (by decide +kernel)
theorem dX5_eatenBy_11 : decode cX5_eatenBy 11 = .ok (.iload_n 2, 1) := dc_28 (by decide +kernel)
theorem dX5_eatenBy_12 : decode cX5_eatenBy 12 = .ok (.invokevirtual 53, 3) := dc_182 0 53 (by decide +kernel)
theorem dX5_eatenBy_15 : decode cX5_eatenBy 15 = .ok (.bipush 8, 2) := dc_16 8 8 (by decide +kernel)
theorem dX5_eatenBy_17 : decode cX5_eatenBy 17 = .ok (.lshr, 1) := dc_123 (by decide +kernel)
theorem dX5_eatenBy_18 : decode cX5_eatenBy 18 = .ok (.ldc2_w 63, 3) := dc_20 0 63 (by decide +kernel)
theorem kw_5_42 : (Jvm.Cond.constantLong "ParishUnion$Past" (63 : Nat) (65535 : Int64)) ∈ gT := gT_of (tb_5 _ (List.mem_of_getElem? (i := 42) rfl)) rfl
theorem dX5_eatenBy_21 : decode cX5_eatenBy 21 = .ok (.land, 1) := dc_127 (by decide +kernel)
theorem dX5_eatenBy_22 : decode cX5_eatenBy 22 = .ok (.l2i, 1) := dc_136 (by decide +kernel)
theorem dX5_eatenBy_23 : decode cX5_eatenBy 23 = .ok (.goto 4, 3) := dc_167 0 4 4 (by decide +kernel)
abbrev R_X5_eatenBy : Room := { frames := 2, cells := 0, slots := 0, locals := 44 }
set_option maxRecDepth 100000 in
set_option maxHeartbeats 4000000 in
theorem s_X5_eatenBy {l : Launch} {n0 : Nat} {D : va_G} {cA : Nat → ClassId} {M : gM} (a : Int) (r_a : 0 ≤ a ∧ a ≤ 299) (b : Int) (r_b : 0 ≤ b ∧ b ≤ 15) {sz : Nat} (hsz : 206 ≤ sz) (I : gI sz M) (C : gC sz M)   : Met l yX5_eatenBy (gWsOf yX5_eatenBy cX5_eatenBy 3 (Option.some Jvm.ClassFile.FieldType.int)) R_X5_eatenBy (gPc n0 D cA [gA n0 23, gJ a, gJ b] M sz) (gQi n0 D cA sz (fun z M1 => M = M1 ∧ (0 ≤ z ∧ z ≤ 65535))) 0 0 (fun q => n0 ≤ q) := by
  refine gMetI [gA n0 23, gJ a, gJ b] (by decide) (Nat.le_of_ble_eq_true rfl) ⟨rfl, rfl⟩ ?_
  intro p e s m args below meth cd Q X hq
  have X : gCx p s m args meth cd n0 D cA "ParishUnion$Past" cX5_eatenBy 3 := X
  show G p l e R_X5_eatenBy s m args below meth cd n0 D cA 3 Q 0 0 M sz 0 [(0, gA n0 23), (1, gJ a), (2, gJ b)] []
  refine g_aload_n (n := 1) X 0 dX5_eatenBy_0 rfl rfl rfl ?_
  refine g_iload_n (n := 2) X 1 dX5_eatenBy_1 rfl rfl rfl ?_
  refine g_iload_n (n := 3) X 2 dX5_eatenBy_2 rfl rfl rfl ?_
  refine g_callVi (n := 6) (As := [gJ a, gJ b]) (rest := []) (cs1 := 0) (ss1 := 0) X (s_X5_wasThere a (by omega) b (by omega) hsz I C ) okX5_wasThere kw_5_41 ⟨kw_5_25, kw_5_26⟩ ⟨rfl, rfl⟩ ⟨Nat.le_of_ble_eq_true rfl, Nat.le_of_ble_eq_true rfl⟩ rfl (by decide) (gsz hsz (by decide)) lay_23 rfl rfl (Nat.le_of_ble_eq_true rfl) ⟨Nat.le_of_ble_eq_true rfl, Nat.le_of_ble_eq_true rfl⟩ rfl rfl dX5_eatenBy_3 rfl (fun v1 M2 P3 => ?_)
  obtain ⟨rfl, rv1⟩ := P3
  refine g_if_eq (n := 9) (tgt := 26) X dX5_eatenBy_6 (by decide) (by omega) rfl (fun c4 => ?_) (fun c4 => ?_)
  · refine g_iconst (n := 27) X dX5_eatenBy_26 rfl ?_
    exact hq _ _ _ _ dX5_eatenBy_27 ⟨rfl, by omega⟩
  · refine g_aload_n (n := 10) X 0 dX5_eatenBy_9 rfl rfl rfl ?_
    refine g_iload_n (n := 11) X 1 dX5_eatenBy_10 rfl rfl rfl ?_
    refine g_iload_n (n := 12) X 2 dX5_eatenBy_11 rfl rfl rfl ?_
    refine g_callVl (n := 15) (As := [gJ a, gJ b]) (rest := []) (cs1 := 0) (ss1 := 0) X (s_X5_mark a (by omega) b (by omega) hsz I C ) okX5_mark kw_5_28 ⟨kw_5_30, kw_0_29⟩ ⟨rfl, rfl⟩ ⟨Nat.le_of_ble_eq_true rfl, Nat.le_of_ble_eq_true rfl⟩ rfl (by decide) (gsz hsz (by decide)) lay_23 rfl rfl (Nat.le_of_ble_eq_true rfl) ⟨Nat.le_of_ble_eq_true rfl, Nat.le_of_ble_eq_true rfl⟩ rfl rfl dX5_eatenBy_12 rfl (fun v5 M6 P7 => ?_)
    obtain ⟨rfl, rv5⟩ := P7
    refine g_bipush (n := 17) X dX5_eatenBy_15 (by decide +kernel) rfl ?_
    refine g_lshrA (n := 18) X dX5_eatenBy_17 rfl (fun v8 rv8 xv8 => ?_)
    clear xv8
    refine g_ldc2 (n := 21) (z := 65535) X dX5_eatenBy_18 kw_5_42 (by decide +kernel) rfl ?_
    refine g_landC (n := 22) X dX5_eatenBy_21 (by decide) rfl (fun v9 rv9 xv9 => ?_)
    clear xv9
    refine g_l2iE (n := 23) (z := v9) X dX5_eatenBy_22 (g_l2i (by omega)) rfl ?_
    refine g_goto (tgt := 27) X dX5_eatenBy_23 (by decide) ?_
    exact hq _ _ _ _ dX5_eatenBy_27 ⟨rfl, by omega⟩
theorem dX5_givenTo_0 : decode cX5_givenTo 0 = .ok (.aload_n 0, 1) := dc_42 (by decide +kernel)
theorem dX5_givenTo_1 : decode cX5_givenTo 1 = .ok (.iload_n 1, 1) := dc_27 (by decide +kernel)
theorem dX5_givenTo_2 : decode cX5_givenTo 2 = .ok (.iload_n 2, 1) := dc_28 (by decide +kernel)
theorem dX5_givenTo_3 : decode cX5_givenTo 3 = .ok (.invokevirtual 59, 3) := dc_182 0 59 (by decide +kernel)
theorem dX5_givenTo_6 : decode cX5_givenTo 6 = .ok (.ifCond .eq 20, 3) := dc_153 0 20 20 (by decide +kernel)
theorem dX5_givenTo_26 : decode cX5_givenTo 26 = .ok (.iconst 0, 1) := dc_3 (by decide +kernel)
theorem dX5_givenTo_27 : decode cX5_givenTo 27 = .ok (.ireturn, 1) := dc_172 (by decide +kernel)
theorem dX5_givenTo_9 : decode cX5_givenTo 9 = .ok (.aload_n 0, 1) := dc_42 (by decide +kernel)
theorem dX5_givenTo_10 : decode cX5_givenTo 10 = .ok (.iload_n 1, 1) := dc_27 (by decide +kernel)
theorem dX5_givenTo_11 : decode cX5_givenTo 11 = .ok (.iload_n 2, 1) := dc_28 (by decide +kernel)
theorem dX5_givenTo_12 : decode cX5_givenTo 12 = .ok (.invokevirtual 53, 3) := dc_182 0 53 (by decide +kernel)
theorem dX5_givenTo_15 : decode cX5_givenTo 15 = .ok (.bipush 24, 2) := dc_16 24 24 (by decide +kernel)
theorem dX5_givenTo_17 : decode cX5_givenTo 17 = .ok (.lshr, 1) := dc_123 (by decide +kernel)
theorem dX5_givenTo_18 : decode cX5_givenTo 18 = .ok (.ldc2_w 63, 3) := dc_20 0 63 (by decide +kernel)
theorem dX5_givenTo_21 : decode cX5_givenTo 21 = .ok (.land, 1) := dc_127 (by decide +kernel)
theorem dX5_givenTo_22 : decode cX5_givenTo 22 = .ok (.l2i, 1) := dc_136 (by decide +kernel)
theorem dX5_givenTo_23 : decode cX5_givenTo 23 = .ok (.goto 4, 3) := dc_167 0 4 4 (by decide +kernel)
abbrev R_X5_givenTo : Room := { frames := 2, cells := 0, slots := 0, locals := 44 }
set_option maxRecDepth 100000 in
set_option maxHeartbeats 4000000 in
theorem s_X5_givenTo {l : Launch} {n0 : Nat} {D : va_G} {cA : Nat → ClassId} {M : gM} (a : Int) (r_a : 0 ≤ a ∧ a ≤ 299) (b : Int) (r_b : 0 ≤ b ∧ b ≤ 15) {sz : Nat} (hsz : 206 ≤ sz) (I : gI sz M) (C : gC sz M)   : Met l yX5_givenTo (gWsOf yX5_givenTo cX5_givenTo 3 (Option.some Jvm.ClassFile.FieldType.int)) R_X5_givenTo (gPc n0 D cA [gA n0 23, gJ a, gJ b] M sz) (gQi n0 D cA sz (fun z M1 => M = M1 ∧ (0 ≤ z ∧ z ≤ 65535))) 0 0 (fun q => n0 ≤ q) := by
  refine gMetI [gA n0 23, gJ a, gJ b] (by decide) (Nat.le_of_ble_eq_true rfl) ⟨rfl, rfl⟩ ?_
  intro p e s m args below meth cd Q X hq
  have X : gCx p s m args meth cd n0 D cA "ParishUnion$Past" cX5_givenTo 3 := X
  show G p l e R_X5_givenTo s m args below meth cd n0 D cA 3 Q 0 0 M sz 0 [(0, gA n0 23), (1, gJ a), (2, gJ b)] []
  refine g_aload_n (n := 1) X 0 dX5_givenTo_0 rfl rfl rfl ?_
  refine g_iload_n (n := 2) X 1 dX5_givenTo_1 rfl rfl rfl ?_
  refine g_iload_n (n := 3) X 2 dX5_givenTo_2 rfl rfl rfl ?_
  refine g_callVi (n := 6) (As := [gJ a, gJ b]) (rest := []) (cs1 := 0) (ss1 := 0) X (s_X5_wasThere a (by omega) b (by omega) hsz I C ) okX5_wasThere kw_5_41 ⟨kw_5_25, kw_5_26⟩ ⟨rfl, rfl⟩ ⟨Nat.le_of_ble_eq_true rfl, Nat.le_of_ble_eq_true rfl⟩ rfl (by decide) (gsz hsz (by decide)) lay_23 rfl rfl (Nat.le_of_ble_eq_true rfl) ⟨Nat.le_of_ble_eq_true rfl, Nat.le_of_ble_eq_true rfl⟩ rfl rfl dX5_givenTo_3 rfl (fun v1 M2 P3 => ?_)
  obtain ⟨rfl, rv1⟩ := P3
  refine g_if_eq (n := 9) (tgt := 26) X dX5_givenTo_6 (by decide) (by omega) rfl (fun c4 => ?_) (fun c4 => ?_)
  · refine g_iconst (n := 27) X dX5_givenTo_26 rfl ?_
    exact hq _ _ _ _ dX5_givenTo_27 ⟨rfl, by omega⟩
  · refine g_aload_n (n := 10) X 0 dX5_givenTo_9 rfl rfl rfl ?_
    refine g_iload_n (n := 11) X 1 dX5_givenTo_10 rfl rfl rfl ?_
    refine g_iload_n (n := 12) X 2 dX5_givenTo_11 rfl rfl rfl ?_
    refine g_callVl (n := 15) (As := [gJ a, gJ b]) (rest := []) (cs1 := 0) (ss1 := 0) X (s_X5_mark a (by omega) b (by omega) hsz I C ) okX5_mark kw_5_28 ⟨kw_5_30, kw_0_29⟩ ⟨rfl, rfl⟩ ⟨Nat.le_of_ble_eq_true rfl, Nat.le_of_ble_eq_true rfl⟩ rfl (by decide) (gsz hsz (by decide)) lay_23 rfl rfl (Nat.le_of_ble_eq_true rfl) ⟨Nat.le_of_ble_eq_true rfl, Nat.le_of_ble_eq_true rfl⟩ rfl rfl dX5_givenTo_12 rfl (fun v5 M6 P7 => ?_)
    obtain ⟨rfl, rv5⟩ := P7
    refine g_bipush (n := 17) X dX5_givenTo_15 (by decide +kernel) rfl ?_
    refine g_lshrA (n := 18) X dX5_givenTo_17 rfl (fun v8 rv8 xv8 => ?_)
    clear xv8
    refine g_ldc2 (n := 21) (z := 65535) X dX5_givenTo_18 kw_5_42 (by decide +kernel) rfl ?_
    refine g_landC (n := 22) X dX5_givenTo_21 (by decide) rfl (fun v9 rv9 xv9 => ?_)
    clear xv9
    refine g_l2iE (n := 23) (z := v9) X dX5_givenTo_22 (g_l2i (by omega)) rfl ?_
    refine g_goto (tgt := 27) X dX5_givenTo_23 (by decide) ?_
    exact hq _ _ _ _ dX5_givenTo_27 ⟨rfl, by omega⟩
theorem dX5_wasHelped_0 : decode cX5_wasHelped 0 = .ok (.aload_n 0, 1) := dc_42 (by decide +kernel)
theorem dX5_wasHelped_1 : decode cX5_wasHelped 1 = .ok (.iload_n 1, 1) := dc_27 (by decide +kernel)
theorem dX5_wasHelped_2 : decode cX5_wasHelped 2 = .ok (.iload_n 2, 1) := dc_28 (by decide +kernel)
theorem dX5_wasHelped_3 : decode cX5_wasHelped 3 = .ok (.invokevirtual 65, 3) := dc_182 0 65 (by decide +kernel)
theorem kw_5_67 : (Jvm.Cond.methodLink "ParishUnion$Past" (65 : Nat) ({ cls := "ParishUnion$Past", name := "eatenBy", desc := "(II)I" } : Jvm.MethodName)) ∈ gT := gT_of (tb_5 _ (List.mem_of_getElem? (i := 67) rfl)) rfl
theorem kw_5_40 : (Jvm.Cond.code ({ cls := "ParishUnion$Past", name := "eatenBy", desc := "(II)I" } : Jvm.MethodName) prog_7_method_12_code (3 : Nat) (Option.some Jvm.ClassFile.FieldType.int)) ∈ gT := gT_of (tb_5 _ (List.mem_of_getElem? (i := 40) rfl)) rfl
theorem okX5_eatenBy : gQok yX5_eatenBy cX5_eatenBy 3 (Option.some Jvm.ClassFile.FieldType.int) 2 := ⟨kw_5_40, kw_1_6, by decide +kernel, by decide +kernel, by decide +kernel⟩
theorem kw_5_38 : (Jvm.Cond.instanceMethod ({ cls := "ParishUnion$Past", name := "eatenBy", desc := "(II)I" } : Jvm.MethodName)) ∈ gT := gT_of (tb_5 _ (List.mem_of_getElem? (i := 38) rfl)) rfl
theorem kw_5_39 : (Jvm.Cond.selects "ParishUnion$Past" ({ cls := "ParishUnion$Past", name := "eatenBy", desc := "(II)I" } : Jvm.MethodName) ({ cls := "ParishUnion$Past", name := "eatenBy", desc := "(II)I" } : Jvm.MethodName)) ∈ gT := gT_of (tb_5 _ (List.mem_of_getElem? (i := 39) rfl)) rfl
theorem dX5_wasHelped_6 : decode cX5_wasHelped 6 = .ok (.ifCond .gt 12, 3) := dc_157 0 12 12 (by decide +kernel)
theorem dX5_wasHelped_18 : decode cX5_wasHelped 18 = .ok (.iconst 1, 1) := dc_4 (by decide +kernel)
theorem dX5_wasHelped_19 : decode cX5_wasHelped 19 = .ok (.goto 4, 3) := dc_167 0 4 4 (by decide +kernel)
theorem dX5_wasHelped_23 : decode cX5_wasHelped 23 = .ok (.ireturn, 1) := dc_172 (by decide +kernel)
theorem dX5_wasHelped_9 : decode cX5_wasHelped 9 = .ok (.aload_n 0, 1) := dc_42 (by decide +kernel)
theorem dX5_wasHelped_10 : decode cX5_wasHelped 10 = .ok (.iload_n 1, 1) := dc_27 (by decide +kernel)
theorem dX5_wasHelped_11 : decode cX5_wasHelped 11 = .ok (.iload_n 2, 1) := dc_28 (by decide +kernel)
theorem dX5_wasHelped_12 : decode cX5_wasHelped 12 = .ok (.invokevirtual 68, 3) := dc_182 0 68 (by decide +kernel)
theorem kw_5_68 : (Jvm.Cond.methodLink "ParishUnion$Past" (68 : Nat) ({ cls := "ParishUnion$Past", name := "givenTo", desc := "(II)I" } : Jvm.MethodName)) ∈ gT := gT_of (tb_5 _ (List.mem_of_getElem? (i := 68) rfl)) rfl
theorem kw_5_46 : (Jvm.Cond.code ({ cls := "ParishUnion$Past", name := "givenTo", desc := "(II)I" } : Jvm.MethodName) prog_7_method_13_code (3 : Nat) (Option.some Jvm.ClassFile.FieldType.int)) ∈ gT := gT_of (tb_5 _ (List.mem_of_getElem? (i := 46) rfl)) rfl
theorem okX5_givenTo : gQok yX5_givenTo cX5_givenTo 3 (Option.some Jvm.ClassFile.FieldType.int) 2 := ⟨kw_5_46, kw_1_6, by decide +kernel, by decide +kernel, by decide +kernel⟩
theorem kw_5_44 : (Jvm.Cond.instanceMethod ({ cls := "ParishUnion$Past", name := "givenTo", desc := "(II)I" } : Jvm.MethodName)) ∈ gT := gT_of (tb_5 _ (List.mem_of_getElem? (i := 44) rfl)) rfl
theorem kw_5_45 : (Jvm.Cond.selects "ParishUnion$Past" ({ cls := "ParishUnion$Past", name := "givenTo", desc := "(II)I" } : Jvm.MethodName) ({ cls := "ParishUnion$Past", name := "givenTo", desc := "(II)I" } : Jvm.MethodName)) ∈ gT := gT_of (tb_5 _ (List.mem_of_getElem? (i := 45) rfl)) rfl
theorem dX5_wasHelped_15 : decode cX5_wasHelped 15 = .ok (.ifCond .le 7, 3) := dc_158 0 7 7 (by decide +kernel)
theorem dX5_wasHelped_22 : decode cX5_wasHelped 22 = .ok (.iconst 0, 1) := dc_3 (by decide +kernel)
abbrev R_X5_wasHelped : Room := { frames := 3, cells := 0, slots := 0, locals := 66 }
set_option maxRecDepth 100000 in
set_option maxHeartbeats 4000000 in
theorem s_X5_wasHelped {l : Launch} {n0 : Nat} {D : va_G} {cA : Nat → ClassId} {M : gM} (a : Int) (r_a : 0 ≤ a ∧ a ≤ 299) (b : Int) (r_b : 0 ≤ b ∧ b ≤ 15) {sz : Nat} (hsz : 206 ≤ sz) (I : gI sz M) (C : gC sz M)   : Met l yX5_wasHelped (gWsOf yX5_wasHelped cX5_wasHelped 3 (Option.some Jvm.ClassFile.FieldType.boolean)) R_X5_wasHelped (gPc n0 D cA [gA n0 23, gJ a, gJ b] M sz) (gQi n0 D cA sz (fun z M1 => M = M1 ∧ (0 ≤ z ∧ z ≤ 1))) 0 0 (fun q => n0 ≤ q) := by
  refine gMetZ [gA n0 23, gJ a, gJ b] (by decide) (Nat.le_of_ble_eq_true rfl) ⟨rfl, rfl⟩ ?_
  intro p e s m args below meth cd Q X hq
  have X : gCx p s m args meth cd n0 D cA "ParishUnion$Past" cX5_wasHelped 3 := X
  show G p l e R_X5_wasHelped s m args below meth cd n0 D cA 3 Q 0 0 M sz 0 [(0, gA n0 23), (1, gJ a), (2, gJ b)] []
  refine g_aload_n (n := 1) X 0 dX5_wasHelped_0 rfl rfl rfl ?_
  refine g_iload_n (n := 2) X 1 dX5_wasHelped_1 rfl rfl rfl ?_
  refine g_iload_n (n := 3) X 2 dX5_wasHelped_2 rfl rfl rfl ?_
  refine g_callVi (n := 6) (As := [gJ a, gJ b]) (rest := []) (cs1 := 0) (ss1 := 0) X (s_X5_eatenBy a (by omega) b (by omega) hsz I C ) okX5_eatenBy kw_5_67 ⟨kw_5_38, kw_5_39⟩ ⟨rfl, rfl⟩ ⟨Nat.le_of_ble_eq_true rfl, Nat.le_of_ble_eq_true rfl⟩ rfl (by decide) (gsz hsz (by decide)) lay_23 rfl rfl (Nat.le_of_ble_eq_true rfl) ⟨Nat.le_of_ble_eq_true rfl, Nat.le_of_ble_eq_true rfl⟩ rfl rfl dX5_wasHelped_3 rfl (fun v1 M2 P3 => ?_)
  obtain ⟨rfl, rv1⟩ := P3
  refine g_if_gt (n := 9) (tgt := 18) X dX5_wasHelped_6 (by decide) (by omega) rfl (fun c4 => ?_) (fun c4 => ?_)
  · refine g_iconst (n := 19) X dX5_wasHelped_18 rfl ?_
    refine g_goto (tgt := 23) X dX5_wasHelped_19 (by decide) ?_
    exact hq _ _ _ _ dX5_wasHelped_23 (by omega) ⟨rfl, by omega⟩
  · refine g_aload_n (n := 10) X 0 dX5_wasHelped_9 rfl rfl rfl ?_
    refine g_iload_n (n := 11) X 1 dX5_wasHelped_10 rfl rfl rfl ?_
    refine g_iload_n (n := 12) X 2 dX5_wasHelped_11 rfl rfl rfl ?_
    refine g_callVi (n := 15) (As := [gJ a, gJ b]) (rest := []) (cs1 := 0) (ss1 := 0) X (s_X5_givenTo a (by omega) b (by omega) hsz I C ) okX5_givenTo kw_5_68 ⟨kw_5_44, kw_5_45⟩ ⟨rfl, rfl⟩ ⟨Nat.le_of_ble_eq_true rfl, Nat.le_of_ble_eq_true rfl⟩ rfl (by decide) (gsz hsz (by decide)) lay_23 rfl rfl (Nat.le_of_ble_eq_true rfl) ⟨Nat.le_of_ble_eq_true rfl, Nat.le_of_ble_eq_true rfl⟩ rfl rfl dX5_wasHelped_12 rfl (fun v5 M6 P7 => ?_)
    obtain ⟨rfl, rv5⟩ := P7
    refine g_if_le (n := 18) (tgt := 22) X dX5_wasHelped_15 (by decide) (by omega) rfl (fun c8 => ?_) (fun c8 => ?_)
    · refine g_iconst (n := 23) X dX5_wasHelped_22 rfl ?_
      exact hq _ _ _ _ dX5_wasHelped_23 (by omega) ⟨rfl, by omega⟩
    · refine g_iconst (n := 19) X dX5_wasHelped_18 rfl ?_
      refine g_goto (tgt := 23) X dX5_wasHelped_19 (by decide) ?_
      exact hq _ _ _ _ dX5_wasHelped_23 (by omega) ⟨rfl, by omega⟩
