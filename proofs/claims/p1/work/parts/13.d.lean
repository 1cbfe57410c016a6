theorem dX5_open_0 : decode cX5_open 0 = .ok (.iconst 0, 1) := by decide +kernel
theorem dX5_open_1 : decode cX5_open 1 = .ok (.istore_n 2, 1) := by decide +kernel
theorem dX5_open_2 : decode cX5_open 2 = .ok (.iload_n 2, 1) := by decide +kernel
theorem dX5_open_3 : decode cX5_open 3 = .ok (.bipush 7, 2) := by decide +kernel
theorem dX5_open_5 : decode cX5_open 5 = .ok (.if_icmp .ge 21, 3) := by decide +kernel
theorem dX5_open_26 : decode cX5_open 26 = .ok (.iconst 0, 1) := by decide +kernel
theorem dX5_open_27 : decode cX5_open 27 = .ok (.istore_n 2, 1) := by decide +kernel
theorem dX5_open_28 : decode cX5_open 28 = .ok (.iload_n 2, 1) := by decide +kernel
theorem dX5_open_29 : decode cX5_open 29 = .ok (.bipush 16, 2) := by decide +kernel
theorem dX5_open_31 : decode cX5_open 31 = .ok (.if_icmp .ge 23, 3) := by decide +kernel
theorem dX5_open_54 : decode cX5_open 54 = .ok (.return_, 1) := by decide +kernel
theorem dX5_open_34 : decode cX5_open 34 = .ok (.aload_n 0, 1) := by decide +kernel
theorem dX5_open_35 : decode cX5_open 35 = .ok (.getfield 15, 3) := by decide +kernel
theorem kw_1_143 : (Jvm.Cond.fieldLink "ParishUnion$Past" (15 : Nat) "ParishUnion$Past" "marks" "[J") ∈ gT := gT_of (tb_1 _ (List.mem_of_getElem? (i := 143) rfl)) rfl
theorem dX5_open_38 : decode cX5_open 38 = .ok (.iload_n 1, 1) := by decide +kernel
theorem dX5_open_39 : decode cX5_open 39 = .ok (.bipush 16, 2) := by decide +kernel
theorem dX5_open_41 : decode cX5_open 41 = .ok (.imul, 1) := by decide +kernel
theorem dX5_open_42 : decode cX5_open 42 = .ok (.iload_n 2, 1) := by decide +kernel
theorem dX5_open_43 : decode cX5_open 43 = .ok (.iadd, 1) := by decide +kernel
theorem dX5_open_44 : decode cX5_open 44 = .ok (.ldc2_w 25, 3) := by decide +kernel
theorem kw_4_193 : (Jvm.Cond.constantLong "ParishUnion$Past" (25 : Nat) (-1 : Int64)) ∈ gT := gT_of (tb_4 _ (List.mem_of_getElem? (i := 193) rfl)) rfl
theorem dX5_open_47 : decode cX5_open 47 = .ok (.lastore, 1) := by decide +kernel
theorem dX5_open_48 : decode cX5_open 48 = .ok (.iinc 2 1, 3) := by decide +kernel
theorem dX5_open_51 : decode cX5_open 51 = .ok (.goto (-23), 3) := by decide +kernel
theorem dX5_open_8 : decode cX5_open 8 = .ok (.aload_n 0, 1) := by decide +kernel
theorem dX5_open_9 : decode cX5_open 9 = .ok (.getfield 9, 3) := by decide +kernel
theorem kw_1_142 : (Jvm.Cond.fieldLink "ParishUnion$Past" (9 : Nat) "ParishUnion$Past" "sums" "[I") ∈ gT := gT_of (tb_1 _ (List.mem_of_getElem? (i := 142) rfl)) rfl
theorem dX5_open_12 : decode cX5_open 12 = .ok (.iload_n 1, 1) := by decide +kernel
theorem dX5_open_13 : decode cX5_open 13 = .ok (.bipush 7, 2) := by decide +kernel
theorem dX5_open_15 : decode cX5_open 15 = .ok (.imul, 1) := by decide +kernel
theorem dX5_open_16 : decode cX5_open 16 = .ok (.iload_n 2, 1) := by decide +kernel
theorem dX5_open_17 : decode cX5_open 17 = .ok (.iadd, 1) := by decide +kernel
theorem dX5_open_18 : decode cX5_open 18 = .ok (.iconst 0, 1) := by decide +kernel
theorem dX5_open_19 : decode cX5_open 19 = .ok (.iastore, 1) := by decide +kernel
theorem dX5_open_20 : decode cX5_open 20 = .ok (.iinc 2 1, 3) := by decide +kernel
theorem dX5_open_23 : decode cX5_open 23 = .ok (.goto (-21), 3) := by decide +kernel
set_option maxRecDepth 100000 in
set_option maxHeartbeats 4000000 in
theorem c_X5_open {l : Launch} {n0 : Nat} {D : va_G} {cA : Nat → ClassId} {M : gM} (a : Int) (r_a : -2147483648 ≤ a ∧ a ≤ 2147483647) {sz : Nat} (hsz : 206 ≤ sz) (f_23_0 : M 23 0 = 25) (f_23_1 : M 23 1 = 26) (hab : 0 ≤ a ∧ a ≤ 299) : Met l yX5_open (gWsOf yX5_open cX5_open 3 (Option.none : Option Jvm.ClassFile.FieldType)) { frames := 0, cells := 0, slots := 0, locals := 0 } (gPc n0 D cA [gA n0 23, gJ a] M sz) (gQv n0 D cA sz (fun M1 => ∀ a : Int, a ≠ 24 → a ≠ 25 → M1 a = M a)) 0 0 (fun q => n0 ≤ q) := by
  refine gMet_of [gA n0 23, gJ a] (by decide) (Nat.le_of_ble_eq_true rfl) ?_
  intro p e s m args below meth cd X hr hm
  have X : gCx p s m args meth cd n0 D cA "ParishUnion$Past" cX5_open 3 := X
  show G p l e ({ frames := 0, cells := 0, slots := 0, locals := 0 } : Room) s m args below meth cd n0 D cA 3 (MQ below (gQv n0 D cA sz (fun M1 => ∀ a : Int, a ≠ 24 → a ≠ 25 → M1 a = M a)) args s 0 0 (fun q => n0 ≤ q)) 0 0 M sz 0 [(0, gA n0 23), (1, gJ a)] []
  refine g_iconst (n := 1) X dX5_open_0 rfl ?_
  refine g_istore_n (n := 2) (L' := [(2, gJ 0), (0, gA n0 23), (1, gJ a)]) X dX5_open_1 rfl (by decide) rfl rfl ?_
  have loop1 : ∀ (N3 : Nat) (j : Int) (M5 : gM), (∀ a : Int, a ≠ 24 → M5 a = M a) → (0 ≤ j ∧ j ≤ 7) → (7 - j).toNat < N3 → G p l e ({ frames := 0, cells := 0, slots := 0, locals := 0 } : Room) s m args below meth cd n0 D cA 3 (MQ below (gQv n0 D cA sz (fun M1 => ∀ a : Int, a ≠ 24 → a ≠ 25 → M1 a = M a)) args s 0 0 (fun q => n0 ≤ q)) 0 0 M5 sz 2 [(0, gA n0 23), (1, gJ a), (2, gJ j)] [] := by
    intro N3; induction N3 with
    | zero => intro j M5 F6 ij hm4; exfalso; omega
    | succ N3 ih2 =>
      intro j M5 F6 ij hm4
      refine g_iload_n (n := 3) X 2 dX5_open_2 rfl rfl rfl ?_
      refine g_bipush (n := 5) X dX5_open_3 (by decide +kernel) rfl ?_
      refine g_icmp_ge (n := 8) (tgt := 26) X dX5_open_5 (by decide) (by omega) (by omega) rfl (fun c7 => ?_) (fun c7 => ?_)
      · refine g_iconst (n := 27) X dX5_open_26 rfl ?_
        refine g_istore_n (n := 28) (L' := [(2, gJ 0), (0, gA n0 23), (1, gJ a)]) X dX5_open_27 rfl (by decide) rfl rfl ?_
        have loop8 : ∀ (N10 : Nat) (j : Int) (M12 : gM), (∀ a : Int, a ≠ 25 → M12 a = M5 a) → (0 ≤ j ∧ j ≤ 16) → (16 - j).toNat < N10 → G p l e ({ frames := 0, cells := 0, slots := 0, locals := 0 } : Room) s m args below meth cd n0 D cA 3 (MQ below (gQv n0 D cA sz (fun M1 => ∀ a : Int, a ≠ 24 → a ≠ 25 → M1 a = M a)) args s 0 0 (fun q => n0 ≤ q)) 0 0 M12 sz 28 [(0, gA n0 23), (1, gJ a), (2, gJ j)] [] := by
          intro N10; induction N10 with
          | zero => intro j M12 F13 ij hm11; exfalso; omega
          | succ N10 ih9 =>
            intro j M12 F13 ij hm11
            refine g_iload_n (n := 29) X 2 dX5_open_28 rfl rfl rfl ?_
            refine g_bipush (n := 31) X dX5_open_29 (by decide +kernel) rfl ?_
            refine g_icmp_ge (n := 34) (tgt := 54) X dX5_open_31 (by decide) (by omega) (by omega) rfl (fun c14 => ?_) (fun c14 => ?_)
            · exact g_return X hr dX5_open_54 (by exact (fun a h0 h1 => ((F13 a (by omega)).trans ((F6 a (by omega)).trans rfl))))
            · refine g_aload_n (n := 35) X 0 dX5_open_34 rfl rfl rfl ?_
              refine gg_5_1 (n := 38) (z := 25) X (by omega) (by omega) lay_23 kw_1_143 dX5_open_35 rfl ((congrFun (F13 23 (by omega)) _).trans ((congrFun (F6 23 (by omega)) _).trans f_23_1)) (by omega) ?_
              refine g_iload_n (n := 39) X 1 dX5_open_38 rfl rfl rfl ?_
              refine g_bipush (n := 41) X dX5_open_39 (by decide +kernel) rfl ?_
              refine g_imul (n := 42) (z := a * 16) X dX5_open_41 rfl rfl ?_
              refine g_iload_n (n := 43) X 2 dX5_open_42 rfl rfl rfl ?_
              refine g_iadd (n := 44) (z := (a * 16) + j) X dX5_open_43 rfl rfl ?_
              refine g_ldc2 (n := 47) (z := -1) X dX5_open_44 kw_4_193 (by decide +kernel) rfl ?_
              refine g_last (n := 48) X (by omega) (by omega) lay_25 (by omega) (by omega) (by omega) dX5_open_47 rfl ?_
              refine G.nm (fun M15 e16 => ?_)
              refine g_iinc (n := 51) (w := j + 1) (L' := [(2, gJ (j + 1)), (0, gA n0 23), (1, gJ a)]) X 2 dX5_open_48 rfl rfl (by decide) rfl rfl ?_
              refine g_goto (tgt := 28) X dX5_open_51 (by decide) ?_
              refine G.sub (L' := [(0, gA n0 23), (1, gJ a), (2, gJ (j + 1))]) [1, 2, 0] rfl ?_
              exact ih9 (j + 1) M15 (fun a h0 => ((congrFun e16 a).trans ((gset_off a (by omega)).trans ((F13 a (by omega)).trans rfl)))) (by omega) (by omega)
        refine G.sub (L' := [(0, gA n0 23), (1, gJ a), (2, gJ 0)]) [1, 2, 0] rfl ?_
        exact loop8 _ 0 M5 (fun a _ => rfl) (by omega) (Nat.lt_succ_self _)
      · refine g_aload_n (n := 9) X 0 dX5_open_8 rfl rfl rfl ?_
        refine gg_5_0 (n := 12) (z := 24) X (by omega) (by omega) lay_23 kw_1_142 dX5_open_9 rfl ((congrFun (F6 23 (by omega)) _).trans f_23_0) (by omega) ?_
        refine g_iload_n (n := 13) X 1 dX5_open_12 rfl rfl rfl ?_
        refine g_bipush (n := 15) X dX5_open_13 (by decide +kernel) rfl ?_
        refine g_imul (n := 16) (z := a * 7) X dX5_open_15 rfl rfl ?_
        refine g_iload_n (n := 17) X 2 dX5_open_16 rfl rfl rfl ?_
        refine g_iadd (n := 18) (z := (a * 7) + j) X dX5_open_17 rfl rfl ?_
        refine g_iconst (n := 19) X dX5_open_18 rfl ?_
        refine g_iast (n := 20) X (by omega) (by omega) lay_24 (by omega) (by omega) (by omega) dX5_open_19 rfl ?_
        refine G.nm (fun M17 e18 => ?_)
        refine g_iinc (n := 23) (w := j + 1) (L' := [(2, gJ (j + 1)), (0, gA n0 23), (1, gJ a)]) X 2 dX5_open_20 rfl rfl (by decide) rfl rfl ?_
        refine g_goto (tgt := 2) X dX5_open_23 (by decide) ?_
        refine G.sub (L' := [(0, gA n0 23), (1, gJ a), (2, gJ (j + 1))]) [1, 2, 0] rfl ?_
        exact ih2 (j + 1) M17 (fun a h0 => ((congrFun e18 a).trans ((gset_off a (by omega)).trans ((F6 a (by omega)).trans rfl)))) (by omega) (by omega)
  refine G.sub (L' := [(0, gA n0 23), (1, gJ a), (2, gJ 0)]) [1, 2, 0] rfl ?_
  exact loop1 _ 0 M (fun a _ => rfl) (by omega) (Nat.lt_succ_self _)
theorem dX5_sum_0 : decode cX5_sum 0 = .ok (.aload_n 0, 1) := by decide +kernel
theorem dX5_sum_1 : decode cX5_sum 1 = .ok (.getfield 9, 3) := by decide +kernel
theorem dX5_sum_4 : decode cX5_sum 4 = .ok (.iload_n 1, 1) := by decide +kernel
theorem dX5_sum_5 : decode cX5_sum 5 = .ok (.bipush 7, 2) := by decide +kernel
theorem dX5_sum_7 : decode cX5_sum 7 = .ok (.imul, 1) := by decide +kernel
theorem dX5_sum_8 : decode cX5_sum 8 = .ok (.iload_n 2, 1) := by decide +kernel
theorem dX5_sum_9 : decode cX5_sum 9 = .ok (.iadd, 1) := by decide +kernel
theorem dX5_sum_10 : decode cX5_sum 10 = .ok (.iaload, 1) := by decide +kernel
theorem dX5_sum_11 : decode cX5_sum 11 = .ok (.ireturn, 1) := by decide +kernel
set_option maxRecDepth 100000 in
set_option maxHeartbeats 4000000 in
theorem c_X5_sum {l : Launch} {n0 : Nat} {D : va_G} {cA : Nat → ClassId} {M : gM} (a b : Int) (r_a : -2147483648 ≤ a ∧ a ≤ 2147483647) (r_b : -2147483648 ≤ b ∧ b ≤ 2147483647) {sz : Nat} (hsz : 206 ≤ sz) (f_23_0 : M 23 0 = 25) (hab : 0 ≤ a ∧ a ≤ 299 ∧ 0 ≤ b ∧ b ≤ 6) : Met l yX5_sum (gWsOf yX5_sum cX5_sum 3 (Option.some Jvm.ClassFile.FieldType.int)) { frames := 0, cells := 0, slots := 0, locals := 0 } (gPc n0 D cA [gA n0 23, gJ a, gJ b] M sz) (gQi n0 D cA sz (fun z M1 => M = M1 ∧ (z = M 24 (a * 7 + b)))) 0 0 (fun q => n0 ≤ q) := by
  refine gMet_of [gA n0 23, gJ a, gJ b] (by decide) (Nat.le_of_ble_eq_true rfl) ?_
  intro p e s m args below meth cd X hr hm
  have X : gCx p s m args meth cd n0 D cA "ParishUnion$Past" cX5_sum 3 := X
  show G p l e ({ frames := 0, cells := 0, slots := 0, locals := 0 } : Room) s m args below meth cd n0 D cA 3 (MQ below (gQi n0 D cA sz (fun z M1 => M = M1 ∧ (z = M 24 (a * 7 + b)))) args s 0 0 (fun q => n0 ≤ q)) 0 0 M sz 0 [(0, gA n0 23), (1, gJ a), (2, gJ b)] []
  refine g_aload_n (n := 1) X 0 dX5_sum_0 rfl rfl rfl ?_
  refine gg_5_0 (n := 4) (z := 24) X (by omega) (by omega) lay_23 kw_1_142 dX5_sum_1 rfl f_23_0 (by omega) ?_
  refine g_iload_n (n := 5) X 1 dX5_sum_4 rfl rfl rfl ?_
  refine g_bipush (n := 7) X dX5_sum_5 (by decide +kernel) rfl ?_
  refine g_imul (n := 8) (z := a * 7) X dX5_sum_7 rfl rfl ?_
  refine g_iload_n (n := 9) X 2 dX5_sum_8 rfl rfl rfl ?_
  refine g_iadd (n := 10) (z := (a * 7) + b) X dX5_sum_9 rfl rfl ?_
  refine g_iald (n := 11) X (by omega) (by omega) lay_24 (by omega) (by omega) (by omega) dX5_sum_10 rfl ?_
  exact g_ireturn X hr dX5_sum_11 (by exact ⟨rfl, by rfl⟩)
theorem dX5_add_0 : decode cX5_add 0 = .ok (.aload_n 0, 1) := by decide +kernel
theorem dX5_add_1 : decode cX5_add 1 = .ok (.getfield 9, 3) := by decide +kernel
theorem dX5_add_4 : decode cX5_add 4 = .ok (.iload_n 1, 1) := by decide +kernel
theorem dX5_add_5 : decode cX5_add 5 = .ok (.bipush 7, 2) := by decide +kernel
theorem dX5_add_7 : decode cX5_add 7 = .ok (.imul, 1) := by decide +kernel
theorem dX5_add_8 : decode cX5_add 8 = .ok (.iload_n 2, 1) := by decide +kernel
theorem dX5_add_9 : decode cX5_add 9 = .ok (.iadd, 1) := by decide +kernel
theorem dX5_add_10 : decode cX5_add 10 = .ok (.dup2, 1) := by decide +kernel
theorem dX5_add_11 : decode cX5_add 11 = .ok (.iaload, 1) := by decide +kernel
theorem dX5_add_12 : decode cX5_add 12 = .ok (.iload_n 3, 1) := by decide +kernel
theorem dX5_add_13 : decode cX5_add 13 = .ok (.iadd, 1) := by decide +kernel
theorem dX5_add_14 : decode cX5_add 14 = .ok (.iastore, 1) := by decide +kernel
theorem dX5_add_15 : decode cX5_add 15 = .ok (.return_, 1) := by decide +kernel
set_option maxRecDepth 100000 in
set_option maxHeartbeats 4000000 in
theorem c_X5_add {l : Launch} {n0 : Nat} {D : va_G} {cA : Nat → ClassId} {M : gM} (a b g : Int) (r_a : -2147483648 ≤ a ∧ a ≤ 2147483647) (r_b : -2147483648 ≤ b ∧ b ≤ 2147483647) {sz : Nat} (hsz : 206 ≤ sz) (f_23_0 : M 23 0 = 25) (hab : 0 ≤ a ∧ a ≤ 299 ∧ 0 ≤ b ∧ b ≤ 6) : Met l yX5_add (gWsOf yX5_add cX5_add 4 (Option.none : Option Jvm.ClassFile.FieldType)) { frames := 0, cells := 0, slots := 0, locals := 0 } (gPc n0 D cA [gA n0 23, gJ a, gJ b, gJ g] M sz) (gQv n0 D cA sz (fun M1 => ∀ a : Int, a ≠ 24 → M1 a = M a)) 0 0 (fun q => n0 ≤ q) := by
  refine gMet_of [gA n0 23, gJ a, gJ b, gJ g] (by decide) (Nat.le_of_ble_eq_true rfl) ?_
  intro p e s m args below meth cd X hr hm
  have X : gCx p s m args meth cd n0 D cA "ParishUnion$Past" cX5_add 4 := X
  show G p l e ({ frames := 0, cells := 0, slots := 0, locals := 0 } : Room) s m args below meth cd n0 D cA 4 (MQ below (gQv n0 D cA sz (fun M1 => ∀ a : Int, a ≠ 24 → M1 a = M a)) args s 0 0 (fun q => n0 ≤ q)) 0 0 M sz 0 [(0, gA n0 23), (1, gJ a), (2, gJ b), (3, gJ g)] []
  refine g_aload_n (n := 1) X 0 dX5_add_0 rfl rfl rfl ?_
  refine gg_5_0 (n := 4) (z := 24) X (by omega) (by omega) lay_23 kw_1_142 dX5_add_1 rfl f_23_0 (by omega) ?_
  refine g_iload_n (n := 5) X 1 dX5_add_4 rfl rfl rfl ?_
  refine g_bipush (n := 7) X dX5_add_5 (by decide +kernel) rfl ?_
  refine g_imul (n := 8) (z := a * 7) X dX5_add_7 rfl rfl ?_
  refine g_iload_n (n := 9) X 2 dX5_add_8 rfl rfl rfl ?_
  refine g_iadd (n := 10) (z := (a * 7) + b) X dX5_add_9 rfl rfl ?_
  refine g_dup2 (n := 11) X dX5_add_10 rfl rfl rfl ?_
  refine g_iald (n := 12) X (by omega) (by omega) lay_24 (by omega) (by omega) (by omega) dX5_add_11 rfl ?_
  refine g_iload_n (n := 13) X 3 dX5_add_12 rfl rfl rfl ?_
  refine g_iadd (n := 14) (z := (M 24 ((a * 7) + b)) + g) X dX5_add_13 rfl rfl ?_
  refine g_iast (n := 15) X (by omega) (by omega) lay_24 (by omega) (by omega) (by omega) dX5_add_14 rfl ?_
  refine G.nm (fun M1 e2 => ?_)
  exact g_return X hr dX5_add_15 (by exact (fun a h0 => ((congrFun e2 a).trans ((gset_off a (by omega)).trans rfl))))
theorem dX5_close_0 : decode cX5_close 0 = .ok (.iload_n 1, 1) := by decide +kernel
theorem dX5_close_1 : decode cX5_close 1 = .ok (.ifCond .le 15, 3) := by decide +kernel
theorem dX5_close_16 : decode cX5_close 16 = .ok (.iconst 0, 1) := by decide +kernel
theorem dX5_close_17 : decode cX5_close 17 = .ok (.istore_n 2, 1) := by decide +kernel
theorem dX5_close_18 : decode cX5_close 18 = .ok (.aload_n 0, 1) := by decide +kernel
theorem dX5_close_19 : decode cX5_close 19 = .ok (.iload_n 1, 1) := by decide +kernel
theorem dX5_close_20 : decode cX5_close 20 = .ok (.bipush 6, 2) := by decide +kernel
theorem dX5_close_22 : decode cX5_close 22 = .ok (.iload_n 2, 1) := by decide +kernel
theorem dX5_close_23 : decode cX5_close 23 = .ok (.aload_n 0, 1) := by decide +kernel
theorem dX5_close_24 : decode cX5_close 24 = .ok (.iload_n 1, 1) := by decide +kernel
theorem dX5_close_25 : decode cX5_close 25 = .ok (.iconst 2, 1) := by decide +kernel
theorem dX5_close_26 : decode cX5_close 26 = .ok (.invokevirtual 45, 3) := by decide +kernel
theorem kw_5_5 : (Jvm.Cond.methodLink "ParishUnion$Past" (45 : Nat) ({ cls := "ParishUnion$Past", name := "sum", desc := "(II)I" } : Jvm.MethodName)) ∈ gT := gT_of (tb_5 _ (List.mem_of_getElem? (i := 5) rfl)) rfl
theorem kw_4_180 : (Jvm.Cond.code ({ cls := "ParishUnion$Past", name := "sum", desc := "(II)I" } : Jvm.MethodName) prog_7_method_7_code (3 : Nat) (Option.some Jvm.ClassFile.FieldType.int)) ∈ gT := gT_of (tb_4 _ (List.mem_of_getElem? (i := 180) rfl)) rfl
theorem kw_1_6 : (Jvm.Cond.initialized "ParishUnion$Past") ∈ gT := gT_of (tb_1 _ (List.mem_of_getElem? (i := 6) rfl)) rfl
theorem okX5_sum : gQok yX5_sum cX5_sum 3 (Option.some Jvm.ClassFile.FieldType.int) 2 := ⟨kw_4_180, kw_1_6, by decide +kernel, by decide +kernel, by decide +kernel⟩
theorem kw_4_178 : (Jvm.Cond.instanceMethod ({ cls := "ParishUnion$Past", name := "sum", desc := "(II)I" } : Jvm.MethodName)) ∈ gT := gT_of (tb_4 _ (List.mem_of_getElem? (i := 178) rfl)) rfl
theorem kw_4_179 : (Jvm.Cond.selects "ParishUnion$Past" ({ cls := "ParishUnion$Past", name := "sum", desc := "(II)I" } : Jvm.MethodName) ({ cls := "ParishUnion$Past", name := "sum", desc := "(II)I" } : Jvm.MethodName)) ∈ gT := gT_of (tb_4 _ (List.mem_of_getElem? (i := 179) rfl)) rfl
theorem dX5_close_29 : decode cX5_close 29 = .ok (.iadd, 1) := by decide +kernel
theorem dX5_close_30 : decode cX5_close 30 = .ok (.aload_n 0, 1) := by decide +kernel
theorem dX5_close_31 : decode cX5_close 31 = .ok (.iload_n 1, 1) := by decide +kernel
theorem dX5_close_32 : decode cX5_close 32 = .ok (.iconst 3, 1) := by decide +kernel
theorem dX5_close_33 : decode cX5_close 33 = .ok (.invokevirtual 45, 3) := by decide +kernel
theorem dX5_close_36 : decode cX5_close 36 = .ok (.iadd, 1) := by decide +kernel
theorem dX5_close_37 : decode cX5_close 37 = .ok (.invokevirtual 49, 3) := by decide +kernel
theorem kw_5_6 : (Jvm.Cond.methodLink "ParishUnion$Past" (49 : Nat) ({ cls := "ParishUnion$Past", name := "add", desc := "(III)V" } : Jvm.MethodName)) ∈ gT := gT_of (tb_5 _ (List.mem_of_getElem? (i := 6) rfl)) rfl
theorem kw_4_208 : (Jvm.Cond.code ({ cls := "ParishUnion$Past", name := "add", desc := "(III)V" } : Jvm.MethodName) prog_7_method_4_code (4 : Nat) (Option.none : Option Jvm.ClassFile.FieldType)) ∈ gT := gT_of (tb_4 _ (List.mem_of_getElem? (i := 208) rfl)) rfl
theorem okX5_add : gQok yX5_add cX5_add 4 (Option.none : Option Jvm.ClassFile.FieldType) 3 := ⟨kw_4_208, kw_1_6, by decide +kernel, by decide +kernel, by decide +kernel⟩
theorem kw_4_206 : (Jvm.Cond.instanceMethod ({ cls := "ParishUnion$Past", name := "add", desc := "(III)V" } : Jvm.MethodName)) ∈ gT := gT_of (tb_4 _ (List.mem_of_getElem? (i := 206) rfl)) rfl
theorem kw_4_207 : (Jvm.Cond.selects "ParishUnion$Past" ({ cls := "ParishUnion$Past", name := "add", desc := "(III)V" } : Jvm.MethodName) ({ cls := "ParishUnion$Past", name := "add", desc := "(III)V" } : Jvm.MethodName)) ∈ gT := gT_of (tb_4 _ (List.mem_of_getElem? (i := 207) rfl)) rfl
theorem dX5_close_40 : decode cX5_close 40 = .ok (.return_, 1) := by decide +kernel
theorem dX5_close_4 : decode cX5_close 4 = .ok (.aload_n 0, 1) := by decide +kernel
theorem dX5_close_5 : decode cX5_close 5 = .ok (.iload_n 1, 1) := by decide +kernel
theorem dX5_close_6 : decode cX5_close 6 = .ok (.iconst 1, 1) := by decide +kernel
theorem dX5_close_7 : decode cX5_close 7 = .ok (.isub, 1) := by decide +kernel
theorem dX5_close_8 : decode cX5_close 8 = .ok (.bipush 6, 2) := by decide +kernel
theorem dX5_close_10 : decode cX5_close 10 = .ok (.invokevirtual 45, 3) := by decide +kernel
theorem dX5_close_13 : decode cX5_close 13 = .ok (.goto 4, 3) := by decide +kernel
set_option maxRecDepth 100000 in
set_option maxHeartbeats 4000000 in
theorem c_X5_close {l : Launch} {n0 : Nat} {D : va_G} {cA : Nat → ClassId} {M : gM} (a : Int) (r_a : -2147483648 ≤ a ∧ a ≤ 2147483647) {sz : Nat} (hsz : 206 ≤ sz) (f_23_0 : M 23 0 = 25) (hab : 0 ≤ a ∧ a ≤ 299) : Met l yX5_close (gWsOf yX5_close cX5_close 3 (Option.none : Option Jvm.ClassFile.FieldType)) { frames := 1, cells := 0, slots := 0, locals := 23 } (gPc n0 D cA [gA n0 23, gJ a] M sz) (gQv n0 D cA sz (fun M1 => ∀ a : Int, a ≠ 24 → M1 a = M a)) 0 0 (fun q => n0 ≤ q) := by
  refine gMet_of [gA n0 23, gJ a] (by decide) (Nat.le_of_ble_eq_true rfl) ?_
  intro p e s m args below meth cd X hr hm
  have X : gCx p s m args meth cd n0 D cA "ParishUnion$Past" cX5_close 3 := X
  show G p l e ({ frames := 1, cells := 0, slots := 0, locals := 23 } : Room) s m args below meth cd n0 D cA 3 (MQ below (gQv n0 D cA sz (fun M1 => ∀ a : Int, a ≠ 24 → M1 a = M a)) args s 0 0 (fun q => n0 ≤ q)) 0 0 M sz 0 [(0, gA n0 23), (1, gJ a)] []
  refine g_iload_n (n := 1) X 1 dX5_close_0 rfl rfl rfl ?_
  refine g_if_le (n := 4) (tgt := 16) X dX5_close_1 (by decide) (by omega) rfl (fun c1 => ?_) (fun c1 => ?_)
  · refine g_iconst (n := 17) X dX5_close_16 rfl ?_
    refine g_istore_n (n := 18) (L' := [(2, gJ 0), (0, gA n0 23), (1, gJ a)]) X dX5_close_17 rfl (by decide) rfl rfl ?_
    refine g_aload_n (n := 19) X 1 dX5_close_18 rfl rfl rfl ?_
    refine g_iload_n (n := 20) X 2 dX5_close_19 rfl rfl rfl ?_
    refine g_bipush (n := 22) X dX5_close_20 (by decide +kernel) rfl ?_
    refine g_iload_n (n := 23) X 0 dX5_close_22 rfl rfl rfl ?_
    refine g_aload_n (n := 24) X 1 dX5_close_23 rfl rfl rfl ?_
    refine g_iload_n (n := 25) X 2 dX5_close_24 rfl rfl rfl ?_
    refine g_iconst (n := 26) X dX5_close_25 rfl ?_
    refine g_callVi (n := 29) (As := [gJ a, gJ 2]) (rest := [gJ 0, gJ 6, gJ a, gA n0 23]) (cs1 := 0) (ss1 := 0) X (c_X5_sum a 2 (by omega) (by omega) (by omega) f_23_0 (by omega)) okX5_sum kw_5_5 ⟨kw_4_178, kw_4_179⟩ ⟨rfl, rfl⟩ ⟨Nat.le_of_ble_eq_true rfl, Nat.le_of_ble_eq_true rfl⟩ rfl (by omega) (by omega) lay_23 rfl rfl (Nat.le_of_ble_eq_true rfl) ⟨Nat.le_of_ble_eq_true rfl, Nat.le_of_ble_eq_true rfl⟩ rfl rfl dX5_close_26 rfl (fun z2 M3 P4 => ?_)
    obtain ⟨rfl, P4⟩ := P4
    refine g_iadd (n := 30) (z := 0 + z2) X dX5_close_29 rfl rfl ?_
    refine g_aload_n (n := 31) X 1 dX5_close_30 rfl rfl rfl ?_
    refine g_iload_n (n := 32) X 2 dX5_close_31 rfl rfl rfl ?_
    refine g_iconst (n := 33) X dX5_close_32 rfl ?_
    refine g_callVi (n := 36) (As := [gJ a, gJ 3]) (rest := [gJ (0 + z2), gJ 6, gJ a, gA n0 23]) (cs1 := 0) (ss1 := 0) X (c_X5_sum a 3 (by omega) (by omega) (by omega) f_23_0 (by omega)) okX5_sum kw_5_5 ⟨kw_4_178, kw_4_179⟩ ⟨rfl, rfl⟩ ⟨Nat.le_of_ble_eq_true rfl, Nat.le_of_ble_eq_true rfl⟩ rfl (by omega) (by omega) lay_23 rfl rfl (Nat.le_of_ble_eq_true rfl) ⟨Nat.le_of_ble_eq_true rfl, Nat.le_of_ble_eq_true rfl⟩ rfl rfl dX5_close_33 rfl (fun z5 M6 P7 => ?_)
    obtain ⟨rfl, P7⟩ := P7
    refine g_iadd (n := 37) (z := (0 + z2) + z5) X dX5_close_36 rfl rfl ?_
    refine g_callVv (n := 40) (As := [gJ a, gJ 6, gJ ((0 + z2) + z5)]) (rest := []) (cs1 := 0) (ss1 := 0) X (c_X5_add a 6 ((0 + z2) + z5) (by omega) (by omega) (by omega) f_23_0 (by omega)) okX5_add kw_5_6 ⟨kw_4_206, kw_4_207⟩ ⟨rfl, rfl⟩ ⟨Nat.le_of_ble_eq_true rfl, Nat.le_of_ble_eq_true rfl⟩ rfl (by omega) (by omega) lay_23 rfl rfl (Nat.le_of_ble_eq_true rfl) ⟨Nat.le_of_ble_eq_true rfl, Nat.le_of_ble_eq_true rfl⟩ rfl rfl dX5_close_37 rfl (fun M9 P10 => ?_)
    have F11 := P10
    exact g_return X hr dX5_close_40 (by exact (fun a h0 => ((F11 a (by omega)).trans rfl)))
  · refine g_aload_n (n := 5) X 0 dX5_close_4 rfl rfl rfl ?_
    refine g_iload_n (n := 6) X 1 dX5_close_5 rfl rfl rfl ?_
    refine g_iconst (n := 7) X dX5_close_6 rfl ?_
    refine g_isub (n := 8) (z := a - 1) X dX5_close_7 rfl rfl ?_
    refine g_bipush (n := 10) X dX5_close_8 (by decide +kernel) rfl ?_
    refine g_callVi (n := 13) (As := [gJ (a - 1), gJ 6]) (rest := []) (cs1 := 0) (ss1 := 0) X (c_X5_sum (a - 1) 6 (by omega) (by omega) (by omega) f_23_0 (by omega)) okX5_sum kw_5_5 ⟨kw_4_178, kw_4_179⟩ ⟨rfl, rfl⟩ ⟨Nat.le_of_ble_eq_true rfl, Nat.le_of_ble_eq_true rfl⟩ rfl (by omega) (by omega) lay_23 rfl rfl (Nat.le_of_ble_eq_true rfl) ⟨Nat.le_of_ble_eq_true rfl, Nat.le_of_ble_eq_true rfl⟩ rfl rfl dX5_close_10 rfl (fun z12 M13 P14 => ?_)
    obtain ⟨rfl, P14⟩ := P14
    refine g_goto (tgt := 17) X dX5_close_13 (by decide) ?_
    refine g_istore_n (n := 18) (L' := [(2, gJ z12), (0, gA n0 23), (1, gJ a)]) X dX5_close_17 rfl (by decide) rfl rfl ?_
    refine g_aload_n (n := 19) X 1 dX5_close_18 rfl rfl rfl ?_
    refine g_iload_n (n := 20) X 2 dX5_close_19 rfl rfl rfl ?_
    refine g_bipush (n := 22) X dX5_close_20 (by decide +kernel) rfl ?_
    refine g_iload_n (n := 23) X 0 dX5_close_22 rfl rfl rfl ?_
    refine g_aload_n (n := 24) X 1 dX5_close_23 rfl rfl rfl ?_
    refine g_iload_n (n := 25) X 2 dX5_close_24 rfl rfl rfl ?_
    refine g_iconst (n := 26) X dX5_close_25 rfl ?_
    refine g_callVi (n := 29) (As := [gJ a, gJ 2]) (rest := [gJ z12, gJ 6, gJ a, gA n0 23]) (cs1 := 0) (ss1 := 0) X (c_X5_sum a 2 (by omega) (by omega) (by omega) f_23_0 (by omega)) okX5_sum kw_5_5 ⟨kw_4_178, kw_4_179⟩ ⟨rfl, rfl⟩ ⟨Nat.le_of_ble_eq_true rfl, Nat.le_of_ble_eq_true rfl⟩ rfl (by omega) (by omega) lay_23 rfl rfl (Nat.le_of_ble_eq_true rfl) ⟨Nat.le_of_ble_eq_true rfl, Nat.le_of_ble_eq_true rfl⟩ rfl rfl dX5_close_26 rfl (fun z15 M16 P17 => ?_)
    obtain ⟨rfl, P17⟩ := P17
    refine g_iadd (n := 30) (z := z12 + z15) X dX5_close_29 rfl rfl ?_
    refine g_aload_n (n := 31) X 1 dX5_close_30 rfl rfl rfl ?_
    refine g_iload_n (n := 32) X 2 dX5_close_31 rfl rfl rfl ?_
    refine g_iconst (n := 33) X dX5_close_32 rfl ?_
    refine g_callVi (n := 36) (As := [gJ a, gJ 3]) (rest := [gJ (z12 + z15), gJ 6, gJ a, gA n0 23]) (cs1 := 0) (ss1 := 0) X (c_X5_sum a 3 (by omega) (by omega) (by omega) f_23_0 (by omega)) okX5_sum kw_5_5 ⟨kw_4_178, kw_4_179⟩ ⟨rfl, rfl⟩ ⟨Nat.le_of_ble_eq_true rfl, Nat.le_of_ble_eq_true rfl⟩ rfl (by omega) (by omega) lay_23 rfl rfl (Nat.le_of_ble_eq_true rfl) ⟨Nat.le_of_ble_eq_true rfl, Nat.le_of_ble_eq_true rfl⟩ rfl rfl dX5_close_33 rfl (fun z18 M19 P20 => ?_)
    obtain ⟨rfl, P20⟩ := P20
    refine g_iadd (n := 37) (z := (z12 + z15) + z18) X dX5_close_36 rfl rfl ?_
    refine g_callVv (n := 40) (As := [gJ a, gJ 6, gJ ((z12 + z15) + z18)]) (rest := []) (cs1 := 0) (ss1 := 0) X (c_X5_add a 6 ((z12 + z15) + z18) (by omega) (by omega) (by omega) f_23_0 (by omega)) okX5_add kw_5_6 ⟨kw_4_206, kw_4_207⟩ ⟨rfl, rfl⟩ ⟨Nat.le_of_ble_eq_true rfl, Nat.le_of_ble_eq_true rfl⟩ rfl (by omega) (by omega) lay_23 rfl rfl (Nat.le_of_ble_eq_true rfl) ⟨Nat.le_of_ble_eq_true rfl, Nat.le_of_ble_eq_true rfl⟩ rfl rfl dX5_close_37 rfl (fun M22 P23 => ?_)
    have F24 := P23
    exact g_return X hr dX5_close_40 (by exact (fun a h0 => ((F24 a (by omega)).trans rfl)))
theorem dX9_growHungry_0 : decode cX9_growHungry 0 = .ok (.aload_n 0, 1) := by decide +kernel
theorem dX9_growHungry_1 : decode cX9_growHungry 1 = .ok (.getfield 50, 3) := by decide +kernel
theorem kw_2_118 : (Jvm.Cond.fieldLink "ParishUnion$Union" (50 : Nat) "ParishUnion$Union" "house" "LParishUnion$House;") ∈ gT := gT_of (tb_2 _ (List.mem_of_getElem? (i := 118) rfl)) rfl
theorem dX9_growHungry_4 : decode cX9_growHungry 4 = .ok (.getfield 158, 3) := by decide +kernel
theorem kw_1_99 : (Jvm.Cond.fieldLink "ParishUnion$Union" (158 : Nat) "ParishUnion$House" "frost" "[I") ∈ gT := gT_of (tb_1 _ (List.mem_of_getElem? (i := 99) rfl)) rfl
theorem dX9_growHungry_7 : decode cX9_growHungry 7 = .ok (.aload_n 0, 1) := by decide +kernel
theorem dX9_growHungry_8 : decode cX9_growHungry 8 = .ok (.getfield 110, 3) := by decide +kernel
theorem dX9_growHungry_11 : decode cX9_growHungry 11 = .ok (.iaload, 1) := by decide +kernel
theorem dX9_growHungry_12 : decode cX9_growHungry 12 = .ok (.istore_n 1, 1) := by decide +kernel
theorem dX9_growHungry_13 : decode cX9_growHungry 13 = .ok (.iconst 0, 1) := by decide +kernel
theorem dX9_growHungry_14 : decode cX9_growHungry 14 = .ok (.istore_n 2, 1) := by decide +kernel
theorem dX9_growHungry_15 : decode cX9_growHungry 15 = .ok (.iload_n 2, 1) := by decide +kernel
theorem dX9_growHungry_16 : decode cX9_growHungry 16 = .ok (.aload_n 0, 1) := by decide +kernel
theorem dX9_growHungry_17 : decode cX9_growHungry 17 = .ok (.getfield 79, 3) := by decide +kernel
theorem dX9_growHungry_20 : decode cX9_growHungry 20 = .ok (.if_icmp .ge 102, 3) := by decide +kernel
theorem dX9_growHungry_122 : decode cX9_growHungry 122 = .ok (.return_, 1) := by decide +kernel
set_option maxRecDepth 100000 in
set_option maxHeartbeats 4000000 in
theorem c_X9_growHungry {l : Launch} {n0 : Nat} {D : va_G} {cA : Nat → ClassId} {M : gM}  {sz : Nat} (hsz : 206 ≤ sz) (w : Int) (q_w : 0 ≤ w ∧ w ≤ 299) (f_1_6 : M 1 6 = 16) (f_15_1 : M 15 1 = 18) (f_1_15 : M 1 15 = w) (f_1_10 : M 1 10 = 0) (frost0 : ∀ i : Int, 0 ≤ i → i < 301 → M 17 i = 0) : Met l yX9_growHungry (gWsOf yX9_growHungry cX9_growHungry 5 (Option.none : Option Jvm.ClassFile.FieldType)) { frames := 4, cells := 0, slots := 0, locals := 120 } (gPc n0 D cA [gA n0 1] M sz) (gQv n0 D cA sz (fun M1 => ∀ a : Int, M1 a = M a)) 0 0 (fun q => n0 ≤ q) := by
  refine gMet_of [gA n0 1] (by decide) (Nat.le_of_ble_eq_true rfl) ?_
  intro p e s m args below meth cd X hr hm
  have X : gCx p s m args meth cd n0 D cA "ParishUnion$Union" cX9_growHungry 5 := X
  show G p l e ({ frames := 4, cells := 0, slots := 0, locals := 120 } : Room) s m args below meth cd n0 D cA 5 (MQ below (gQv n0 D cA sz (fun M1 => ∀ a : Int, M1 a = M a)) args s 0 0 (fun q => n0 ≤ q)) 0 0 M sz 0 [(0, gA n0 1)] []
  refine g_aload_n (n := 1) X 0 dX9_growHungry_0 rfl rfl rfl ?_
  refine gg_9_6 (n := 4) (z := 15) X (by omega) (by omega) lay_1 kw_2_118 dX9_growHungry_1 rfl f_1_6 (by omega) ?_
  refine gg_2_1 (n := 7) (z := 17) X (by omega) (by omega) lay_15 kw_1_99 dX9_growHungry_4 rfl f_15_1 (by omega) ?_
  refine g_aload_n (n := 8) X 0 dX9_growHungry_7 rfl rfl rfl ?_
  refine gg_9_15 (n := 11) (z := w) X (by omega) (by omega) lay_1 kw_2_138 dX9_growHungry_8 rfl f_1_15 ?_
  refine g_iald (n := 12) X (by omega) (by omega) lay_17 (by omega) (by omega) (by omega) dX9_growHungry_11 rfl ?_
  rw [show M 17 w = 0 from (frost0 _ (by omega) (by omega))]
  refine g_istore_n (n := 13) (L' := [(1, gJ 0), (0, gA n0 1)]) X dX9_growHungry_12 rfl (by decide) rfl rfl ?_
  refine g_iconst (n := 14) X dX9_growHungry_13 rfl ?_
  refine g_istore_n (n := 15) (L' := [(2, gJ 0), (1, gJ 0), (0, gA n0 1)]) X dX9_growHungry_14 rfl (by decide) rfl rfl ?_
  refine g_iload_n (n := 16) X 0 dX9_growHungry_15 rfl rfl rfl ?_
  refine g_aload_n (n := 17) X 2 dX9_growHungry_16 rfl rfl rfl ?_
  refine gg_9_10 (n := 20) (z := 0) X (by omega) (by omega) lay_1 kw_2_126 dX9_growHungry_17 rfl f_1_10 ?_
  refine g_icmp_ge (n := 23) (tgt := 122) X dX9_growHungry_20 (by decide) (by omega) (by omega) rfl (fun c1 => ?_) (fun c1 => by exfalso; omega)
  exact g_return X hr dX9_growHungry_122 (by exact (fun a  => rfl))
theorem dX9_fallIll_0 : decode cX9_fallIll 0 = .ok (.aload_n 0, 1) := by decide +kernel
theorem dX9_fallIll_1 : decode cX9_fallIll 1 = .ok (.getfield 50, 3) := by decide +kernel
theorem dX9_fallIll_4 : decode cX9_fallIll 4 = .ok (.getfield 158, 3) := by decide +kernel
theorem dX9_fallIll_7 : decode cX9_fallIll 7 = .ok (.aload_n 0, 1) := by decide +kernel
theorem dX9_fallIll_8 : decode cX9_fallIll 8 = .ok (.getfield 110, 3) := by decide +kernel
theorem dX9_fallIll_11 : decode cX9_fallIll 11 = .ok (.iaload, 1) := by decide +kernel
theorem dX9_fallIll_12 : decode cX9_fallIll 12 = .ok (.istore_n 1, 1) := by decide +kernel
theorem dX9_fallIll_13 : decode cX9_fallIll 13 = .ok (.iconst 0, 1) := by decide +kernel
theorem dX9_fallIll_14 : decode cX9_fallIll 14 = .ok (.istore_n 2, 1) := by decide +kernel
theorem dX9_fallIll_15 : decode cX9_fallIll 15 = .ok (.iload_n 2, 1) := by decide +kernel
theorem dX9_fallIll_16 : decode cX9_fallIll 16 = .ok (.aload_n 0, 1) := by decide +kernel
theorem dX9_fallIll_17 : decode cX9_fallIll 17 = .ok (.getfield 79, 3) := by decide +kernel
theorem dX9_fallIll_20 : decode cX9_fallIll 20 = .ok (.if_icmp .ge 93, 3) := by decide +kernel
theorem dX9_fallIll_113 : decode cX9_fallIll 113 = .ok (.return_, 1) := by decide +kernel
set_option maxRecDepth 100000 in
set_option maxHeartbeats 4000000 in
theorem c_X9_fallIll {l : Launch} {n0 : Nat} {D : va_G} {cA : Nat → ClassId} {M : gM}  {sz : Nat} (hsz : 206 ≤ sz) (w : Int) (q_w : 0 ≤ w ∧ w ≤ 299) (f_1_6 : M 1 6 = 16) (f_15_1 : M 15 1 = 18) (f_1_15 : M 1 15 = w) (f_1_10 : M 1 10 = 0) (frost0 : ∀ i : Int, 0 ≤ i → i < 301 → M 17 i = 0) : Met l yX9_fallIll (gWsOf yX9_fallIll cX9_fallIll 5 (Option.none : Option Jvm.ClassFile.FieldType)) { frames := 4, cells := 0, slots := 0, locals := 120 } (gPc n0 D cA [gA n0 1] M sz) (gQv n0 D cA sz (fun M1 => ∀ a : Int, M1 a = M a)) 0 0 (fun q => n0 ≤ q) := by
  refine gMet_of [gA n0 1] (by decide) (Nat.le_of_ble_eq_true rfl) ?_
  intro p e s m args below meth cd X hr hm
  have X : gCx p s m args meth cd n0 D cA "ParishUnion$Union" cX9_fallIll 5 := X
  show G p l e ({ frames := 4, cells := 0, slots := 0, locals := 120 } : Room) s m args below meth cd n0 D cA 5 (MQ below (gQv n0 D cA sz (fun M1 => ∀ a : Int, M1 a = M a)) args s 0 0 (fun q => n0 ≤ q)) 0 0 M sz 0 [(0, gA n0 1)] []
  refine g_aload_n (n := 1) X 0 dX9_fallIll_0 rfl rfl rfl ?_
  refine gg_9_6 (n := 4) (z := 15) X (by omega) (by omega) lay_1 kw_2_118 dX9_fallIll_1 rfl f_1_6 (by omega) ?_
  refine gg_2_1 (n := 7) (z := 17) X (by omega) (by omega) lay_15 kw_1_99 dX9_fallIll_4 rfl f_15_1 (by omega) ?_
  refine g_aload_n (n := 8) X 0 dX9_fallIll_7 rfl rfl rfl ?_
  refine gg_9_15 (n := 11) (z := w) X (by omega) (by omega) lay_1 kw_2_138 dX9_fallIll_8 rfl f_1_15 ?_
  refine g_iald (n := 12) X (by omega) (by omega) lay_17 (by omega) (by omega) (by omega) dX9_fallIll_11 rfl ?_
  rw [show M 17 w = 0 from (frost0 _ (by omega) (by omega))]
  refine g_istore_n (n := 13) (L' := [(1, gJ 0), (0, gA n0 1)]) X dX9_fallIll_12 rfl (by decide) rfl rfl ?_
  refine g_iconst (n := 14) X dX9_fallIll_13 rfl ?_
  refine g_istore_n (n := 15) (L' := [(2, gJ 0), (1, gJ 0), (0, gA n0 1)]) X dX9_fallIll_14 rfl (by decide) rfl rfl ?_
  refine g_iload_n (n := 16) X 0 dX9_fallIll_15 rfl rfl rfl ?_
  refine g_aload_n (n := 17) X 2 dX9_fallIll_16 rfl rfl rfl ?_
  refine gg_9_10 (n := 20) (z := 0) X (by omega) (by omega) lay_1 kw_2_126 dX9_fallIll_17 rfl f_1_10 ?_
  refine g_icmp_ge (n := 23) (tgt := 113) X dX9_fallIll_20 (by decide) (by omega) (by omega) rfl (fun c1 => ?_) (fun c1 => by exfalso; omega)
  exact g_return X hr dX9_fallIll_113 (by exact (fun a  => rfl))
theorem dX9_leaveHouse_0 : decode cX9_leaveHouse 0 = .ok (.aload_n 0, 1) := by decide +kernel
theorem dX9_leaveHouse_1 : decode cX9_leaveHouse 1 = .ok (.getfield 50, 3) := by decide +kernel
theorem dX9_leaveHouse_4 : decode cX9_leaveHouse 4 = .ok (.getfield 158, 3) := by decide +kernel
theorem dX9_leaveHouse_7 : decode cX9_leaveHouse 7 = .ok (.aload_n 0, 1) := by decide +kernel
theorem dX9_leaveHouse_8 : decode cX9_leaveHouse 8 = .ok (.getfield 110, 3) := by decide +kernel
theorem dX9_leaveHouse_11 : decode cX9_leaveHouse 11 = .ok (.iaload, 1) := by decide +kernel
theorem dX9_leaveHouse_12 : decode cX9_leaveHouse 12 = .ok (.iconst 4, 1) := by decide +kernel
theorem dX9_leaveHouse_13 : decode cX9_leaveHouse 13 = .ok (.if_icmp .lt 4, 3) := by decide +kernel
theorem dX9_leaveHouse_17 : decode cX9_leaveHouse 17 = .ok (.iconst 0, 1) := by decide +kernel
theorem dX9_leaveHouse_18 : decode cX9_leaveHouse 18 = .ok (.istore_n 1, 1) := by decide +kernel
theorem dX9_leaveHouse_19 : decode cX9_leaveHouse 19 = .ok (.iload_n 1, 1) := by decide +kernel
theorem dX9_leaveHouse_20 : decode cX9_leaveHouse 20 = .ok (.aload_n 0, 1) := by decide +kernel
theorem dX9_leaveHouse_21 : decode cX9_leaveHouse 21 = .ok (.getfield 79, 3) := by decide +kernel
theorem dX9_leaveHouse_24 : decode cX9_leaveHouse 24 = .ok (.if_icmp .ge 48, 3) := by decide +kernel
theorem dX9_leaveHouse_72 : decode cX9_leaveHouse 72 = .ok (.return_, 1) := by decide +kernel
set_option maxRecDepth 100000 in
set_option maxHeartbeats 4000000 in
theorem c_X9_leaveHouse {l : Launch} {n0 : Nat} {D : va_G} {cA : Nat → ClassId} {M : gM}  {sz : Nat} (hsz : 206 ≤ sz) (w : Int) (q_w : 0 ≤ w ∧ w ≤ 299) (f_1_6 : M 1 6 = 16) (f_15_1 : M 15 1 = 18) (f_1_15 : M 1 15 = w) (f_1_10 : M 1 10 = 0) (frost0 : ∀ i : Int, 0 ≤ i → i < 301 → M 17 i = 0) : Met l yX9_leaveHouse (gWsOf yX9_leaveHouse cX9_leaveHouse 3 (Option.none : Option Jvm.ClassFile.FieldType)) { frames := 1, cells := 0, slots := 0, locals := 21 } (gPc n0 D cA [gA n0 1] M sz) (gQv n0 D cA sz (fun M1 => ∀ a : Int, M1 a = M a)) 0 0 (fun q => n0 ≤ q) := by
  refine gMet_of [gA n0 1] (by decide) (Nat.le_of_ble_eq_true rfl) ?_
  intro p e s m args below meth cd X hr hm
  have X : gCx p s m args meth cd n0 D cA "ParishUnion$Union" cX9_leaveHouse 3 := X
  show G p l e ({ frames := 1, cells := 0, slots := 0, locals := 21 } : Room) s m args below meth cd n0 D cA 3 (MQ below (gQv n0 D cA sz (fun M1 => ∀ a : Int, M1 a = M a)) args s 0 0 (fun q => n0 ≤ q)) 0 0 M sz 0 [(0, gA n0 1)] []
  refine g_aload_n (n := 1) X 0 dX9_leaveHouse_0 rfl rfl rfl ?_
  refine gg_9_6 (n := 4) (z := 15) X (by omega) (by omega) lay_1 kw_2_118 dX9_leaveHouse_1 rfl f_1_6 (by omega) ?_
  refine gg_2_1 (n := 7) (z := 17) X (by omega) (by omega) lay_15 kw_1_99 dX9_leaveHouse_4 rfl f_15_1 (by omega) ?_
  refine g_aload_n (n := 8) X 0 dX9_leaveHouse_7 rfl rfl rfl ?_
  refine gg_9_15 (n := 11) (z := w) X (by omega) (by omega) lay_1 kw_2_138 dX9_leaveHouse_8 rfl f_1_15 ?_
  refine g_iald (n := 12) X (by omega) (by omega) lay_17 (by omega) (by omega) (by omega) dX9_leaveHouse_11 rfl ?_
  rw [show M 17 w = 0 from (frost0 _ (by omega) (by omega))]
  refine g_iconst (n := 13) X dX9_leaveHouse_12 rfl ?_
  refine g_icmp_lt (n := 16) (tgt := 17) X dX9_leaveHouse_13 (by decide) (by omega) (by omega) rfl (fun c1 => ?_) (fun c1 => by exfalso; omega)
  refine g_iconst (n := 18) X dX9_leaveHouse_17 rfl ?_
  refine g_istore_n (n := 19) (L' := [(1, gJ 0), (0, gA n0 1)]) X dX9_leaveHouse_18 rfl (by decide) rfl rfl ?_
  refine g_iload_n (n := 20) X 0 dX9_leaveHouse_19 rfl rfl rfl ?_
  refine g_aload_n (n := 21) X 1 dX9_leaveHouse_20 rfl rfl rfl ?_
  refine gg_9_10 (n := 24) (z := 0) X (by omega) (by omega) lay_1 kw_2_126 dX9_leaveHouse_21 rfl f_1_10 ?_
  refine g_icmp_ge (n := 27) (tgt := 72) X dX9_leaveHouse_24 (by decide) (by omega) (by omega) rfl (fun c2 => ?_) (fun c2 => by exfalso; omega)
  exact g_return X hr dX9_leaveHouse_72 (by exact (fun a  => rfl))
theorem dX9_askAtHouse_0 : decode cX9_askAtHouse 0 = .ok (.aload_n 0, 1) := by decide +kernel
theorem dX9_askAtHouse_1 : decode cX9_askAtHouse 1 = .ok (.iconst 3, 1) := by decide +kernel
theorem dX9_askAtHouse_2 : decode cX9_askAtHouse 2 = .ok (.aload_n 0, 1) := by decide +kernel
theorem dX9_askAtHouse_3 : decode cX9_askAtHouse 3 = .ok (.getfield 110, 3) := by decide +kernel
theorem dX9_askAtHouse_6 : decode cX9_askAtHouse 6 = .ok (.invokevirtual 247, 3) := by decide +kernel
theorem kw_4_213 : (Jvm.Cond.methodLink "ParishUnion$Union" (247 : Nat) ({ cls := "ParishUnion$Union", name := "law", desc := "(II)I" } : Jvm.MethodName)) ∈ gT := gT_of (tb_4 _ (List.mem_of_getElem? (i := 213) rfl)) rfl
theorem dX9_askAtHouse_9 : decode cX9_askAtHouse 9 = .ok (.istore_n 1, 1) := by decide +kernel
theorem dX9_askAtHouse_10 : decode cX9_askAtHouse 10 = .ok (.iconst 0, 1) := by decide +kernel
theorem dX9_askAtHouse_11 : decode cX9_askAtHouse 11 = .ok (.istore_n 2, 1) := by decide +kernel
theorem dX9_askAtHouse_12 : decode cX9_askAtHouse 12 = .ok (.iload_n 2, 1) := by decide +kernel
theorem dX9_askAtHouse_13 : decode cX9_askAtHouse 13 = .ok (.aload_n 0, 1) := by decide +kernel
theorem dX9_askAtHouse_14 : decode cX9_askAtHouse 14 = .ok (.getfield 79, 3) := by decide +kernel
theorem dX9_askAtHouse_17 : decode cX9_askAtHouse 17 = .ok (.if_icmp .ge 137, 3) := by decide +kernel
theorem dX9_askAtHouse_154 : decode cX9_askAtHouse 154 = .ok (.return_, 1) := by decide +kernel
set_option maxRecDepth 100000 in
set_option maxHeartbeats 4000000 in
theorem c_X9_askAtHouse {l : Launch} {n0 : Nat} {D : va_G} {cA : Nat → ClassId} {M : gM}  {sz : Nat} (hsz : 206 ≤ sz) (w : Int) (q_w : 0 ≤ w ∧ w ≤ 299) (f_1_15 : M 1 15 = w) (f_1_10 : M 1 10 = 0) (f_1_13 : M 1 13 = 0) : Met l yX9_askAtHouse (gWsOf yX9_askAtHouse cX9_askAtHouse 6 (Option.none : Option Jvm.ClassFile.FieldType)) { frames := 5, cells := 0, slots := 0, locals := 144 } (gPc n0 D cA [gA n0 1] M sz) (gQv n0 D cA sz (fun M1 => ∀ a : Int, M1 a = M a)) 0 0 (fun q => n0 ≤ q) := by
  refine gMet_of [gA n0 1] (by decide) (Nat.le_of_ble_eq_true rfl) ?_
  intro p e s m args below meth cd X hr hm
  have X : gCx p s m args meth cd n0 D cA "ParishUnion$Union" cX9_askAtHouse 6 := X
  show G p l e ({ frames := 5, cells := 0, slots := 0, locals := 144 } : Room) s m args below meth cd n0 D cA 6 (MQ below (gQv n0 D cA sz (fun M1 => ∀ a : Int, M1 a = M a)) args s 0 0 (fun q => n0 ≤ q)) 0 0 M sz 0 [(0, gA n0 1)] []
  refine g_aload_n (n := 1) X 0 dX9_askAtHouse_0 rfl rfl rfl ?_
  refine g_iconst (n := 2) X dX9_askAtHouse_1 rfl ?_
  refine g_aload_n (n := 3) X 0 dX9_askAtHouse_2 rfl rfl rfl ?_
  refine gg_9_15 (n := 6) (z := w) X (by omega) (by omega) lay_1 kw_2_138 dX9_askAtHouse_3 rfl f_1_15 ?_
  refine g_callVi (n := 9) (As := [gJ 3, gJ w]) (rest := []) (cs1 := 0) (ss1 := 0) X (c_X9_law 3 w (by omega) (by omega) (by omega) f_1_13 (by omega)) okX9_law kw_4_213 ⟨kw_3_138, kw_3_139⟩ ⟨rfl, rfl⟩ ⟨Nat.le_of_ble_eq_true rfl, Nat.le_of_ble_eq_true rfl⟩ rfl (by omega) (by omega) lay_1 rfl rfl (Nat.le_of_ble_eq_true rfl) ⟨Nat.le_of_ble_eq_true rfl, Nat.le_of_ble_eq_true rfl⟩ rfl rfl dX9_askAtHouse_6 rfl (fun z1 M2 P3 => ?_)
  obtain ⟨rfl, P3⟩ := P3
  refine g_istore_n (n := 10) (L' := [(1, gJ z1), (0, gA n0 1)]) X dX9_askAtHouse_9 rfl (by decide) rfl rfl ?_
  refine g_iconst (n := 11) X dX9_askAtHouse_10 rfl ?_
  refine g_istore_n (n := 12) (L' := [(2, gJ 0), (1, gJ z1), (0, gA n0 1)]) X dX9_askAtHouse_11 rfl (by decide) rfl rfl ?_
  refine g_iload_n (n := 13) X 0 dX9_askAtHouse_12 rfl rfl rfl ?_
  refine g_aload_n (n := 14) X 2 dX9_askAtHouse_13 rfl rfl rfl ?_
  refine gg_9_10 (n := 17) (z := 0) X (by omega) (by omega) lay_1 kw_2_126 dX9_askAtHouse_14 rfl f_1_10 ?_
  refine g_icmp_ge (n := 20) (tgt := 154) X dX9_askAtHouse_17 (by decide) (by omega) (by omega) rfl (fun c4 => ?_) (fun c4 => by exfalso; omega)
  exact g_return X hr dX9_askAtHouse_154 (by exact (fun a  => rfl))
theorem dX9_eat_0 : decode cX9_eat 0 = .ok (.aload_n 0, 1) := by decide +kernel
theorem dX9_eat_1 : decode cX9_eat 1 = .ok (.iconst 2, 1) := by decide +kernel
theorem dX9_eat_2 : decode cX9_eat 2 = .ok (.aload_n 0, 1) := by decide +kernel
theorem dX9_eat_3 : decode cX9_eat 3 = .ok (.getfield 110, 3) := by decide +kernel
theorem dX9_eat_6 : decode cX9_eat 6 = .ok (.invokevirtual 247, 3) := by decide +kernel
theorem dX9_eat_9 : decode cX9_eat 9 = .ok (.istore_n 1, 1) := by decide +kernel
theorem dX9_eat_10 : decode cX9_eat 10 = .ok (.iconst 0, 1) := by decide +kernel
theorem dX9_eat_11 : decode cX9_eat 11 = .ok (.istore_n 2, 1) := by decide +kernel
theorem dX9_eat_12 : decode cX9_eat 12 = .ok (.iload_n 2, 1) := by decide +kernel
theorem dX9_eat_13 : decode cX9_eat 13 = .ok (.aload_n 0, 1) := by decide +kernel
theorem dX9_eat_14 : decode cX9_eat 14 = .ok (.getfield 79, 3) := by decide +kernel
theorem dX9_eat_17 : decode cX9_eat 17 = .ok (.if_icmp .ge 97, 3) := by decide +kernel
theorem dX9_eat_114 : decode cX9_eat 114 = .ok (.return_, 1) := by decide +kernel
set_option maxRecDepth 100000 in
set_option maxHeartbeats 4000000 in
theorem c_X9_eat {l : Launch} {n0 : Nat} {D : va_G} {cA : Nat → ClassId} {M : gM}  {sz : Nat} (hsz : 206 ≤ sz) (w : Int) (q_w : 0 ≤ w ∧ w ≤ 299) (f_1_15 : M 1 15 = w) (f_1_10 : M 1 10 = 0) (f_1_13 : M 1 13 = 0) : Met l yX9_eat (gWsOf yX9_eat cX9_eat 4 (Option.none : Option Jvm.ClassFile.FieldType)) { frames := 4, cells := 0, slots := 0, locals := 120 } (gPc n0 D cA [gA n0 1] M sz) (gQv n0 D cA sz (fun M1 => ∀ a : Int, M1 a = M a)) 0 0 (fun q => n0 ≤ q) := by
  refine gMet_of [gA n0 1] (by decide) (Nat.le_of_ble_eq_true rfl) ?_
  intro p e s m args below meth cd X hr hm
  have X : gCx p s m args meth cd n0 D cA "ParishUnion$Union" cX9_eat 4 := X
  show G p l e ({ frames := 4, cells := 0, slots := 0, locals := 120 } : Room) s m args below meth cd n0 D cA 4 (MQ below (gQv n0 D cA sz (fun M1 => ∀ a : Int, M1 a = M a)) args s 0 0 (fun q => n0 ≤ q)) 0 0 M sz 0 [(0, gA n0 1)] []
  refine g_aload_n (n := 1) X 0 dX9_eat_0 rfl rfl rfl ?_
  refine g_iconst (n := 2) X dX9_eat_1 rfl ?_
  refine g_aload_n (n := 3) X 0 dX9_eat_2 rfl rfl rfl ?_
  refine gg_9_15 (n := 6) (z := w) X (by omega) (by omega) lay_1 kw_2_138 dX9_eat_3 rfl f_1_15 ?_
  refine g_callVi (n := 9) (As := [gJ 2, gJ w]) (rest := []) (cs1 := 0) (ss1 := 0) X (c_X9_law 2 w (by omega) (by omega) (by omega) f_1_13 (by omega)) okX9_law kw_4_213 ⟨kw_3_138, kw_3_139⟩ ⟨rfl, rfl⟩ ⟨Nat.le_of_ble_eq_true rfl, Nat.le_of_ble_eq_true rfl⟩ rfl (by omega) (by omega) lay_1 rfl rfl (Nat.le_of_ble_eq_true rfl) ⟨Nat.le_of_ble_eq_true rfl, Nat.le_of_ble_eq_true rfl⟩ rfl rfl dX9_eat_6 rfl (fun z1 M2 P3 => ?_)
  obtain ⟨rfl, P3⟩ := P3
  refine g_istore_n (n := 10) (L' := [(1, gJ z1), (0, gA n0 1)]) X dX9_eat_9 rfl (by decide) rfl rfl ?_
  refine g_iconst (n := 11) X dX9_eat_10 rfl ?_
  refine g_istore_n (n := 12) (L' := [(2, gJ 0), (1, gJ z1), (0, gA n0 1)]) X dX9_eat_11 rfl (by decide) rfl rfl ?_
  refine g_iload_n (n := 13) X 0 dX9_eat_12 rfl rfl rfl ?_
  refine g_aload_n (n := 14) X 2 dX9_eat_13 rfl rfl rfl ?_
  refine gg_9_10 (n := 17) (z := 0) X (by omega) (by omega) lay_1 kw_2_126 dX9_eat_14 rfl f_1_10 ?_
  refine g_icmp_ge (n := 20) (tgt := 114) X dX9_eat_17 (by decide) (by omega) (by omega) rfl (fun c4 => ?_) (fun c4 => by exfalso; omega)
  exact g_return X hr dX9_eat_114 (by exact (fun a  => rfl))
theorem dX9_die_0 : decode cX9_die 0 = .ok (.iconst 0, 1) := by decide +kernel
theorem dX9_die_1 : decode cX9_die 1 = .ok (.istore_n 1, 1) := by decide +kernel
theorem dX9_die_2 : decode cX9_die 2 = .ok (.iload_n 1, 1) := by decide +kernel
theorem dX9_die_3 : decode cX9_die 3 = .ok (.aload_n 0, 1) := by decide +kernel
theorem dX9_die_4 : decode cX9_die 4 = .ok (.getfield 79, 3) := by decide +kernel
theorem dX9_die_7 : decode cX9_die 7 = .ok (.if_icmp .ge 106, 3) := by decide +kernel
theorem dX9_die_113 : decode cX9_die 113 = .ok (.return_, 1) := by decide +kernel
set_option maxRecDepth 100000 in
set_option maxHeartbeats 4000000 in
theorem c_X9_die {l : Launch} {n0 : Nat} {D : va_G} {cA : Nat → ClassId} {M : gM}  {sz : Nat} (hsz : 206 ≤ sz) (f_1_10 : M 1 10 = 0) : Met l yX9_die (gWsOf yX9_die cX9_die 4 (Option.none : Option Jvm.ClassFile.FieldType)) { frames := 1, cells := 0, slots := 0, locals := 23 } (gPc n0 D cA [gA n0 1] M sz) (gQv n0 D cA sz (fun M1 => ∀ a : Int, M1 a = M a)) 0 0 (fun q => n0 ≤ q) := by
  refine gMet_of [gA n0 1] (by decide) (Nat.le_of_ble_eq_true rfl) ?_
  intro p e s m args below meth cd X hr hm
  have X : gCx p s m args meth cd n0 D cA "ParishUnion$Union" cX9_die 4 := X
  show G p l e ({ frames := 1, cells := 0, slots := 0, locals := 23 } : Room) s m args below meth cd n0 D cA 4 (MQ below (gQv n0 D cA sz (fun M1 => ∀ a : Int, M1 a = M a)) args s 0 0 (fun q => n0 ≤ q)) 0 0 M sz 0 [(0, gA n0 1)] []
  refine g_iconst (n := 1) X dX9_die_0 rfl ?_
  refine g_istore_n (n := 2) (L' := [(1, gJ 0), (0, gA n0 1)]) X dX9_die_1 rfl (by decide) rfl rfl ?_
  refine g_iload_n (n := 3) X 0 dX9_die_2 rfl rfl rfl ?_
  refine g_aload_n (n := 4) X 1 dX9_die_3 rfl rfl rfl ?_
  refine gg_9_10 (n := 7) (z := 0) X (by omega) (by omega) lay_1 kw_2_126 dX9_die_4 rfl f_1_10 ?_
  refine g_icmp_ge (n := 10) (tgt := 113) X dX9_die_7 (by decide) (by omega) (by omega) rfl (fun c1 => ?_) (fun c1 => by exfalso; omega)
  exact g_return X hr dX9_die_113 (by exact (fun a  => rfl))
theorem dX9_goBy_0 : decode cX9_goBy 0 = .ok (.iconst 0, 1) := by decide +kernel
theorem dX9_goBy_1 : decode cX9_goBy 1 = .ok (.istore_n 2, 1) := by decide +kernel
theorem dX9_goBy_2 : decode cX9_goBy 2 = .ok (.iload_n 2, 1) := by decide +kernel
theorem dX9_goBy_3 : decode cX9_goBy 3 = .ok (.iload_n 1, 1) := by decide +kernel
theorem dX9_goBy_4 : decode cX9_goBy 4 = .ok (.if_icmp .ge 132, 3) := by decide +kernel
theorem dX9_goBy_136 : decode cX9_goBy 136 = .ok (.return_, 1) := by decide +kernel
theorem dX9_goBy_7 : decode cX9_goBy 7 = .ok (.aload_n 0, 1) := by decide +kernel
theorem dX9_goBy_8 : decode cX9_goBy 8 = .ok (.getfield 110, 3) := by decide +kernel
theorem dX9_goBy_11 : decode cX9_goBy 11 = .ok (.sipush 300, 3) := by decide +kernel
theorem dX9_goBy_14 : decode cX9_goBy 14 = .ok (.if_icmp .ge 122, 3) := by decide +kernel
theorem dX9_goBy_17 : decode cX9_goBy 17 = .ok (.aload_n 0, 1) := by decide +kernel
theorem dX9_goBy_18 : decode cX9_goBy 18 = .ok (.getfield 57, 3) := by decide +kernel
theorem kw_2_120 : (Jvm.Cond.fieldLink "ParishUnion$Union" (57 : Nat) "ParishUnion$Union" "past" "LParishUnion$Past;") ∈ gT := gT_of (tb_2 _ (List.mem_of_getElem? (i := 120) rfl)) rfl
theorem dX9_goBy_21 : decode cX9_goBy 21 = .ok (.aload_n 0, 1) := by decide +kernel
theorem dX9_goBy_22 : decode cX9_goBy 22 = .ok (.getfield 110, 3) := by decide +kernel
theorem dX9_goBy_25 : decode cX9_goBy 25 = .ok (.invokevirtual 191, 3) := by decide +kernel
theorem kw_4_189 : (Jvm.Cond.methodLink "ParishUnion$Union" (191 : Nat) ({ cls := "ParishUnion$Past", name := "open", desc := "(I)V" } : Jvm.MethodName)) ∈ gT := gT_of (tb_4 _ (List.mem_of_getElem? (i := 189) rfl)) rfl
theorem kw_4_192 : (Jvm.Cond.code ({ cls := "ParishUnion$Past", name := "open", desc := "(I)V" } : Jvm.MethodName) prog_7_method_3_code (3 : Nat) (Option.none : Option Jvm.ClassFile.FieldType)) ∈ gT := gT_of (tb_4 _ (List.mem_of_getElem? (i := 192) rfl)) rfl
theorem okX5_open : gQok yX5_open cX5_open 3 (Option.none : Option Jvm.ClassFile.FieldType) 1 := ⟨kw_4_192, kw_1_6, by decide +kernel, by decide +kernel, by decide +kernel⟩
theorem kw_4_190 : (Jvm.Cond.instanceMethod ({ cls := "ParishUnion$Past", name := "open", desc := "(I)V" } : Jvm.MethodName)) ∈ gT := gT_of (tb_4 _ (List.mem_of_getElem? (i := 190) rfl)) rfl
theorem kw_4_191 : (Jvm.Cond.selects "ParishUnion$Past" ({ cls := "ParishUnion$Past", name := "open", desc := "(I)V" } : Jvm.MethodName) ({ cls := "ParishUnion$Past", name := "open", desc := "(I)V" } : Jvm.MethodName)) ∈ gT := gT_of (tb_4 _ (List.mem_of_getElem? (i := 191) rfl)) rfl
theorem dX9_goBy_28 : decode cX9_goBy 28 = .ok (.aload_n 0, 1) := by decide +kernel
theorem dX9_goBy_29 : decode cX9_goBy 29 = .ok (.invokevirtual 195, 3) := by decide +kernel
theorem kw_4_194 : (Jvm.Cond.methodLink "ParishUnion$Union" (195 : Nat) ({ cls := "ParishUnion$Union", name := "growHungry", desc := "()V" } : Jvm.MethodName)) ∈ gT := gT_of (tb_4 _ (List.mem_of_getElem? (i := 194) rfl)) rfl
theorem kw_4_197 : (Jvm.Cond.code ({ cls := "ParishUnion$Union", name := "growHungry", desc := "()V" } : Jvm.MethodName) prog_11_method_13_code (5 : Nat) (Option.none : Option Jvm.ClassFile.FieldType)) ∈ gT := gT_of (tb_4 _ (List.mem_of_getElem? (i := 197) rfl)) rfl
theorem okX9_growHungry : gQok yX9_growHungry cX9_growHungry 5 (Option.none : Option Jvm.ClassFile.FieldType) 0 := ⟨kw_4_197, kw_1_2, by decide +kernel, by decide +kernel, by decide +kernel⟩
theorem kw_4_196 : (Jvm.Cond.instanceMethod ({ cls := "ParishUnion$Union", name := "growHungry", desc := "()V" } : Jvm.MethodName)) ∈ gT := gT_of (tb_4 _ (List.mem_of_getElem? (i := 196) rfl)) rfl
theorem kw_0_22 : (Jvm.Cond.selects "ParishUnion$Union" ({ cls := "ParishUnion$Union", name := "growHungry", desc := "()V" } : Jvm.MethodName) ({ cls := "ParishUnion$Union", name := "growHungry", desc := "()V" } : Jvm.MethodName)) ∈ gT := gT_of (tb_0 _ (List.mem_of_getElem? (i := 22) rfl)) rfl
theorem dX9_goBy_32 : decode cX9_goBy 32 = .ok (.aload_n 0, 1) := by decide +kernel
theorem dX9_goBy_33 : decode cX9_goBy 33 = .ok (.invokevirtual 198, 3) := by decide +kernel
theorem kw_4_209 : (Jvm.Cond.methodLink "ParishUnion$Union" (198 : Nat) ({ cls := "ParishUnion$Union", name := "askAtHouse", desc := "()V" } : Jvm.MethodName)) ∈ gT := gT_of (tb_4 _ (List.mem_of_getElem? (i := 209) rfl)) rfl
theorem kw_4_212 : (Jvm.Cond.code ({ cls := "ParishUnion$Union", name := "askAtHouse", desc := "()V" } : Jvm.MethodName) prog_11_method_14_code (6 : Nat) (Option.none : Option Jvm.ClassFile.FieldType)) ∈ gT := gT_of (tb_4 _ (List.mem_of_getElem? (i := 212) rfl)) rfl
theorem okX9_askAtHouse : gQok yX9_askAtHouse cX9_askAtHouse 6 (Option.none : Option Jvm.ClassFile.FieldType) 0 := ⟨kw_4_212, kw_1_2, by decide +kernel, by decide +kernel, by decide +kernel⟩
theorem kw_4_211 : (Jvm.Cond.instanceMethod ({ cls := "ParishUnion$Union", name := "askAtHouse", desc := "()V" } : Jvm.MethodName)) ∈ gT := gT_of (tb_4 _ (List.mem_of_getElem? (i := 211) rfl)) rfl
theorem kw_0_23 : (Jvm.Cond.selects "ParishUnion$Union" ({ cls := "ParishUnion$Union", name := "askAtHouse", desc := "()V" } : Jvm.MethodName) ({ cls := "ParishUnion$Union", name := "askAtHouse", desc := "()V" } : Jvm.MethodName)) ∈ gT := gT_of (tb_0 _ (List.mem_of_getElem? (i := 23) rfl)) rfl
theorem dX9_goBy_36 : decode cX9_goBy 36 = .ok (.aload_n 0, 1) := by decide +kernel
theorem dX9_goBy_37 : decode cX9_goBy 37 = .ok (.invokevirtual 201, 3) := by decide +kernel
theorem kw_4_220 : (Jvm.Cond.methodLink "ParishUnion$Union" (201 : Nat) ({ cls := "ParishUnion$Union", name := "eat", desc := "()V" } : Jvm.MethodName)) ∈ gT := gT_of (tb_4 _ (List.mem_of_getElem? (i := 220) rfl)) rfl
theorem kw_4_223 : (Jvm.Cond.code ({ cls := "ParishUnion$Union", name := "eat", desc := "()V" } : Jvm.MethodName) prog_11_method_15_code (4 : Nat) (Option.none : Option Jvm.ClassFile.FieldType)) ∈ gT := gT_of (tb_4 _ (List.mem_of_getElem? (i := 223) rfl)) rfl
theorem okX9_eat : gQok yX9_eat cX9_eat 4 (Option.none : Option Jvm.ClassFile.FieldType) 0 := ⟨kw_4_223, kw_1_2, by decide +kernel, by decide +kernel, by decide +kernel⟩
theorem kw_4_222 : (Jvm.Cond.instanceMethod ({ cls := "ParishUnion$Union", name := "eat", desc := "()V" } : Jvm.MethodName)) ∈ gT := gT_of (tb_4 _ (List.mem_of_getElem? (i := 222) rfl)) rfl
theorem kw_0_24 : (Jvm.Cond.selects "ParishUnion$Union" ({ cls := "ParishUnion$Union", name := "eat", desc := "()V" } : Jvm.MethodName) ({ cls := "ParishUnion$Union", name := "eat", desc := "()V" } : Jvm.MethodName)) ∈ gT := gT_of (tb_0 _ (List.mem_of_getElem? (i := 24) rfl)) rfl
theorem dX9_goBy_40 : decode cX9_goBy 40 = .ok (.aload_n 0, 1) := by decide +kernel
theorem dX9_goBy_41 : decode cX9_goBy 41 = .ok (.invokevirtual 204, 3) := by decide +kernel
theorem kw_4_224 : (Jvm.Cond.methodLink "ParishUnion$Union" (204 : Nat) ({ cls := "ParishUnion$Union", name := "fallIll", desc := "()V" } : Jvm.MethodName)) ∈ gT := gT_of (tb_4 _ (List.mem_of_getElem? (i := 224) rfl)) rfl
theorem kw_4_227 : (Jvm.Cond.code ({ cls := "ParishUnion$Union", name := "fallIll", desc := "()V" } : Jvm.MethodName) prog_11_method_16_code (5 : Nat) (Option.none : Option Jvm.ClassFile.FieldType)) ∈ gT := gT_of (tb_4 _ (List.mem_of_getElem? (i := 227) rfl)) rfl
theorem okX9_fallIll : gQok yX9_fallIll cX9_fallIll 5 (Option.none : Option Jvm.ClassFile.FieldType) 0 := ⟨kw_4_227, kw_1_2, by decide +kernel, by decide +kernel, by decide +kernel⟩
theorem kw_4_226 : (Jvm.Cond.instanceMethod ({ cls := "ParishUnion$Union", name := "fallIll", desc := "()V" } : Jvm.MethodName)) ∈ gT := gT_of (tb_4 _ (List.mem_of_getElem? (i := 226) rfl)) rfl
theorem kw_0_25 : (Jvm.Cond.selects "ParishUnion$Union" ({ cls := "ParishUnion$Union", name := "fallIll", desc := "()V" } : Jvm.MethodName) ({ cls := "ParishUnion$Union", name := "fallIll", desc := "()V" } : Jvm.MethodName)) ∈ gT := gT_of (tb_0 _ (List.mem_of_getElem? (i := 25) rfl)) rfl
theorem dX9_goBy_44 : decode cX9_goBy 44 = .ok (.aload_n 0, 1) := by decide +kernel
theorem dX9_goBy_45 : decode cX9_goBy 45 = .ok (.invokevirtual 207, 3) := by decide +kernel
theorem kw_4_228 : (Jvm.Cond.methodLink "ParishUnion$Union" (207 : Nat) ({ cls := "ParishUnion$Union", name := "die", desc := "()V" } : Jvm.MethodName)) ∈ gT := gT_of (tb_4 _ (List.mem_of_getElem? (i := 228) rfl)) rfl
theorem kw_4_231 : (Jvm.Cond.code ({ cls := "ParishUnion$Union", name := "die", desc := "()V" } : Jvm.MethodName) prog_11_method_17_code (4 : Nat) (Option.none : Option Jvm.ClassFile.FieldType)) ∈ gT := gT_of (tb_4 _ (List.mem_of_getElem? (i := 231) rfl)) rfl
theorem okX9_die : gQok yX9_die cX9_die 4 (Option.none : Option Jvm.ClassFile.FieldType) 0 := ⟨kw_4_231, kw_1_2, by decide +kernel, by decide +kernel, by decide +kernel⟩
theorem kw_4_230 : (Jvm.Cond.instanceMethod ({ cls := "ParishUnion$Union", name := "die", desc := "()V" } : Jvm.MethodName)) ∈ gT := gT_of (tb_4 _ (List.mem_of_getElem? (i := 230) rfl)) rfl
theorem kw_0_26 : (Jvm.Cond.selects "ParishUnion$Union" ({ cls := "ParishUnion$Union", name := "die", desc := "()V" } : Jvm.MethodName) ({ cls := "ParishUnion$Union", name := "die", desc := "()V" } : Jvm.MethodName)) ∈ gT := gT_of (tb_0 _ (List.mem_of_getElem? (i := 26) rfl)) rfl
theorem dX9_goBy_48 : decode cX9_goBy 48 = .ok (.aload_n 0, 1) := by decide +kernel
theorem dX9_goBy_49 : decode cX9_goBy 49 = .ok (.invokevirtual 210, 3) := by decide +kernel
theorem kw_4_232 : (Jvm.Cond.methodLink "ParishUnion$Union" (210 : Nat) ({ cls := "ParishUnion$Union", name := "leaveHouse", desc := "()V" } : Jvm.MethodName)) ∈ gT := gT_of (tb_4 _ (List.mem_of_getElem? (i := 232) rfl)) rfl
theorem kw_4_235 : (Jvm.Cond.code ({ cls := "ParishUnion$Union", name := "leaveHouse", desc := "()V" } : Jvm.MethodName) prog_11_method_18_code (3 : Nat) (Option.none : Option Jvm.ClassFile.FieldType)) ∈ gT := gT_of (tb_4 _ (List.mem_of_getElem? (i := 235) rfl)) rfl
theorem okX9_leaveHouse : gQok yX9_leaveHouse cX9_leaveHouse 3 (Option.none : Option Jvm.ClassFile.FieldType) 0 := ⟨kw_4_235, kw_1_2, by decide +kernel, by decide +kernel, by decide +kernel⟩
theorem kw_4_234 : (Jvm.Cond.instanceMethod ({ cls := "ParishUnion$Union", name := "leaveHouse", desc := "()V" } : Jvm.MethodName)) ∈ gT := gT_of (tb_4 _ (List.mem_of_getElem? (i := 234) rfl)) rfl
theorem kw_0_27 : (Jvm.Cond.selects "ParishUnion$Union" ({ cls := "ParishUnion$Union", name := "leaveHouse", desc := "()V" } : Jvm.MethodName) ({ cls := "ParishUnion$Union", name := "leaveHouse", desc := "()V" } : Jvm.MethodName)) ∈ gT := gT_of (tb_0 _ (List.mem_of_getElem? (i := 27) rfl)) rfl
theorem dX9_goBy_52 : decode cX9_goBy 52 = .ok (.iconst 0, 1) := by decide +kernel
theorem dX9_goBy_53 : decode cX9_goBy 53 = .ok (.istore_n 3, 1) := by decide +kernel
theorem dX9_goBy_54 : decode cX9_goBy 54 = .ok (.iload_n 3, 1) := by decide +kernel
theorem dX9_goBy_55 : decode cX9_goBy 55 = .ok (.aload_n 0, 1) := by decide +kernel
theorem dX9_goBy_56 : decode cX9_goBy 56 = .ok (.getfield 79, 3) := by decide +kernel
theorem dX9_goBy_59 : decode cX9_goBy 59 = .ok (.if_icmp .ge 50, 3) := by decide +kernel
theorem dX9_goBy_109 : decode cX9_goBy 109 = .ok (.aload_n 0, 1) := by decide +kernel
theorem dX9_goBy_110 : decode cX9_goBy 110 = .ok (.getfield 57, 3) := by decide +kernel
theorem dX9_goBy_113 : decode cX9_goBy 113 = .ok (.aload_n 0, 1) := by decide +kernel
theorem dX9_goBy_114 : decode cX9_goBy 114 = .ok (.getfield 110, 3) := by decide +kernel
theorem dX9_goBy_117 : decode cX9_goBy 117 = .ok (.invokevirtual 220, 3) := by decide +kernel
theorem kw_5_1 : (Jvm.Cond.methodLink "ParishUnion$Union" (220 : Nat) ({ cls := "ParishUnion$Past", name := "close", desc := "(I)V" } : Jvm.MethodName)) ∈ gT := gT_of (tb_5 _ (List.mem_of_getElem? (i := 1) rfl)) rfl
theorem kw_5_4 : (Jvm.Cond.code ({ cls := "ParishUnion$Past", name := "close", desc := "(I)V" } : Jvm.MethodName) prog_7_method_6_code (3 : Nat) (Option.none : Option Jvm.ClassFile.FieldType)) ∈ gT := gT_of (tb_5 _ (List.mem_of_getElem? (i := 4) rfl)) rfl
theorem okX5_close : gQok yX5_close cX5_close 3 (Option.none : Option Jvm.ClassFile.FieldType) 1 := ⟨kw_5_4, kw_1_6, by decide +kernel, by decide +kernel, by decide +kernel⟩
theorem kw_5_2 : (Jvm.Cond.instanceMethod ({ cls := "ParishUnion$Past", name := "close", desc := "(I)V" } : Jvm.MethodName)) ∈ gT := gT_of (tb_5 _ (List.mem_of_getElem? (i := 2) rfl)) rfl
theorem kw_5_3 : (Jvm.Cond.selects "ParishUnion$Past" ({ cls := "ParishUnion$Past", name := "close", desc := "(I)V" } : Jvm.MethodName) ({ cls := "ParishUnion$Past", name := "close", desc := "(I)V" } : Jvm.MethodName)) ∈ gT := gT_of (tb_5 _ (List.mem_of_getElem? (i := 3) rfl)) rfl
theorem dX9_goBy_120 : decode cX9_goBy 120 = .ok (.aload_n 0, 1) := by decide +kernel
theorem dX9_goBy_121 : decode cX9_goBy 121 = .ok (.dup, 1) := by decide +kernel
theorem dX9_goBy_122 : decode cX9_goBy 122 = .ok (.getfield 110, 3) := by decide +kernel
theorem dX9_goBy_125 : decode cX9_goBy 125 = .ok (.iconst 1, 1) := by decide +kernel
theorem dX9_goBy_126 : decode cX9_goBy 126 = .ok (.iadd, 1) := by decide +kernel
theorem dX9_goBy_127 : decode cX9_goBy 127 = .ok (.putfield 110, 3) := by decide +kernel
theorem dX9_goBy_130 : decode cX9_goBy 130 = .ok (.iinc 2 1, 3) := by decide +kernel
theorem dX9_goBy_133 : decode cX9_goBy 133 = .ok (.goto (-131), 3) := by decide +kernel
set_option maxRecDepth 100000 in
set_option maxHeartbeats 4000000 in
theorem c_X9_goBy {l : Launch} {n0 : Nat} {D : va_G} {cA : Nat → ClassId} {M : gM} (a : Int) (r_a : -2147483648 ≤ a ∧ a ≤ 2147483647) {sz : Nat} (hsz : 206 ≤ sz) (f_1_15 : M 1 15 = 0) (f_1_10 : M 1 10 = 0) (f_1_13 : M 1 13 = 0) (f_1_7 : M 1 7 = 24) (f_1_6 : M 1 6 = 16) (f_15_1 : M 15 1 = 18) (f_23_0 : M 23 0 = 25) (f_23_1 : M 23 1 = 26) (hab : 1 ≤ a ∧ a ≤ 20) (frost0 : ∀ i : Int, 0 ≤ i → i < 301 → M 17 i = 0) : Met l yX9_goBy (gWsOf yX9_goBy cX9_goBy 4 (Option.none : Option Jvm.ClassFile.FieldType)) { frames := 6, cells := 0, slots := 0, locals := 169 } (gPc n0 D cA [gA n0 1, gJ a] M sz) (gQv n0 D cA sz (fun M1 => M1 1 15 = a ∧ ∀ a : Int, a ≠ 1 → a ≠ 24 → a ≠ 25 → M1 a = M a)) 0 0 (fun q => n0 ≤ q) := by
  refine gMet_of [gA n0 1, gJ a] (by decide) (Nat.le_of_ble_eq_true rfl) ?_
  intro p e s m args below meth cd X hr hm
  have X : gCx p s m args meth cd n0 D cA "ParishUnion$Union" cX9_goBy 4 := X
  show G p l e ({ frames := 6, cells := 0, slots := 0, locals := 169 } : Room) s m args below meth cd n0 D cA 4 (MQ below (gQv n0 D cA sz (fun M1 => M1 1 15 = a ∧ ∀ a : Int, a ≠ 1 → a ≠ 24 → a ≠ 25 → M1 a = M a)) args s 0 0 (fun q => n0 ≤ q)) 0 0 M sz 0 [(0, gA n0 1), (1, gJ a)] []
  refine g_iconst (n := 1) X dX9_goBy_0 rfl ?_
  refine g_istore_n (n := 2) (L' := [(2, gJ 0), (0, gA n0 1), (1, gJ a)]) X dX9_goBy_1 rfl (by decide) rfl rfl ?_
  have loop1 : ∀ (N3 : Nat) (g : Int) (M5 : gM), (∀ a : Int, a ≠ 1 → a ≠ 24 → a ≠ 25 → M5 a = M a) → M5 1 15 = g → M5 1 10 = 0 → M5 1 13 = 0 → M5 1 7 = 24 → M5 1 6 = 16 → (0 ≤ g ∧ g ≤ a) → (a - g).toNat < N3 → G p l e ({ frames := 6, cells := 0, slots := 0, locals := 169 } : Room) s m args below meth cd n0 D cA 4 (MQ below (gQv n0 D cA sz (fun M1 => M1 1 15 = a ∧ ∀ a : Int, a ≠ 1 → a ≠ 24 → a ≠ 25 → M1 a = M a)) args s 0 0 (fun q => n0 ≤ q)) 0 0 M5 sz 2 [(0, gA n0 1), (1, gJ a), (2, gJ g)] [] := by
    intro N3; induction N3 with
    | zero => intro g M5 F6 g7 g8 g9 g10 g11 ig hm4; exfalso; omega
    | succ N3 ih2 =>
      intro g M5 F6 g7 g8 g9 g10 g11 ig hm4
      refine g_iload_n (n := 3) X 2 dX9_goBy_2 rfl rfl rfl ?_
      refine g_iload_n (n := 4) X 1 dX9_goBy_3 rfl rfl rfl ?_
      refine g_icmp_ge (n := 7) (tgt := 136) X dX9_goBy_4 (by decide) (by omega) (by omega) rfl (fun c12 => ?_) (fun c12 => ?_)
      · exact g_return X hr dX9_goBy_136 (by exact ⟨(g7.trans (by omega)), fun a h0 h1 h2 => ((F6 a (by omega) (by omega) (by omega)).trans rfl)⟩)
      · refine g_aload_n (n := 8) X 0 dX9_goBy_7 rfl rfl rfl ?_
        refine gg_9_15 (n := 11) (z := g) X (by omega) (by omega) lay_1 kw_2_138 dX9_goBy_8 rfl g7 ?_
        refine g_sipush (n := 14) X dX9_goBy_11 (by decide +kernel) rfl ?_
        refine g_icmp_ge (n := 17) (tgt := 136) X dX9_goBy_14 (by decide) (by omega) (by omega) rfl (fun c13 => ?_) (fun c13 => ?_)
        · exact g_return X hr dX9_goBy_136 (by exact ⟨(g7.trans (by omega)), fun a h0 h1 h2 => ((F6 a (by omega) (by omega) (by omega)).trans rfl)⟩)
        · refine g_aload_n (n := 18) X 0 dX9_goBy_17 rfl rfl rfl ?_
          refine gg_9_7 (n := 21) (z := 23) X (by omega) (by omega) lay_1 kw_2_120 dX9_goBy_18 rfl g10 (by omega) ?_
          refine g_aload_n (n := 22) X 0 dX9_goBy_21 rfl rfl rfl ?_
          refine gg_9_15 (n := 25) (z := g) X (by omega) (by omega) lay_1 kw_2_138 dX9_goBy_22 rfl g7 ?_
          refine g_callVv (n := 28) (As := [gJ g]) (rest := []) (cs1 := 0) (ss1 := 0) X (c_X5_open g (by omega) (by omega) ((congrFun (F6 23 (by omega) (by omega) (by omega)) _).trans f_23_0) ((congrFun (F6 23 (by omega) (by omega) (by omega)) _).trans f_23_1) (by omega)) okX5_open kw_4_189 ⟨kw_4_190, kw_4_191⟩ ⟨rfl, rfl⟩ ⟨Nat.le_of_ble_eq_true rfl, Nat.le_of_ble_eq_true rfl⟩ rfl (by omega) (by omega) lay_23 rfl rfl (Nat.le_of_ble_eq_true rfl) ⟨Nat.le_of_ble_eq_true rfl, Nat.le_of_ble_eq_true rfl⟩ rfl rfl dX9_goBy_25 rfl (fun M15 P16 => ?_)
          have F17 := P16
          refine g_aload_n (n := 29) X 0 dX9_goBy_28 rfl rfl rfl ?_
          refine g_callVv (n := 32) (As := []) (rest := []) (cs1 := 0) (ss1 := 0) X (c_X9_growHungry (by omega) g (by omega) ((congrFun (F17 1 (by omega) (by omega)) _).trans g11) ((congrFun (F17 15 (by omega) (by omega)) _).trans ((congrFun (F6 15 (by omega) (by omega) (by omega)) _).trans f_15_1)) ((congrFun (F17 1 (by omega) (by omega)) _).trans g7) ((congrFun (F17 1 (by omega) (by omega)) _).trans g8) (fun i h0 h1 => (congrFun ((F17 17 (by omega) (by omega)).trans ((F6 17 (by omega) (by omega) (by omega)).trans rfl)) i).trans (frost0 i h0 h1))) okX9_growHungry kw_4_194 ⟨kw_4_196, kw_0_22⟩ ⟨rfl, rfl⟩ ⟨Nat.le_of_ble_eq_true rfl, Nat.le_of_ble_eq_true rfl⟩ rfl (by omega) (by omega) lay_1 rfl rfl (Nat.le_of_ble_eq_true rfl) ⟨Nat.le_of_ble_eq_true rfl, Nat.le_of_ble_eq_true rfl⟩ rfl rfl dX9_goBy_29 rfl (fun M19 P20 => ?_)
          have F21 := P20
          refine g_aload_n (n := 33) X 0 dX9_goBy_32 rfl rfl rfl ?_
          refine g_callVv (n := 36) (As := []) (rest := []) (cs1 := 0) (ss1 := 0) X (c_X9_askAtHouse (by omega) g (by omega) ((congrFun (F21 1) _).trans ((congrFun (F17 1 (by omega) (by omega)) _).trans g7)) ((congrFun (F21 1) _).trans ((congrFun (F17 1 (by omega) (by omega)) _).trans g8)) ((congrFun (F21 1) _).trans ((congrFun (F17 1 (by omega) (by omega)) _).trans g9))) okX9_askAtHouse kw_4_209 ⟨kw_4_211, kw_0_23⟩ ⟨rfl, rfl⟩ ⟨Nat.le_of_ble_eq_true rfl, Nat.le_of_ble_eq_true rfl⟩ rfl (by omega) (by omega) lay_1 rfl rfl (Nat.le_of_ble_eq_true rfl) ⟨Nat.le_of_ble_eq_true rfl, Nat.le_of_ble_eq_true rfl⟩ rfl rfl dX9_goBy_33 rfl (fun M23 P24 => ?_)
          have F25 := P24
          refine g_aload_n (n := 37) X 0 dX9_goBy_36 rfl rfl rfl ?_
          refine g_callVv (n := 40) (As := []) (rest := []) (cs1 := 0) (ss1 := 0) X (c_X9_eat (by omega) g (by omega) ((congrFun (F25 1) _).trans ((congrFun (F21 1) _).trans ((congrFun (F17 1 (by omega) (by omega)) _).trans g7))) ((congrFun (F25 1) _).trans ((congrFun (F21 1) _).trans ((congrFun (F17 1 (by omega) (by omega)) _).trans g8))) ((congrFun (F25 1) _).trans ((congrFun (F21 1) _).trans ((congrFun (F17 1 (by omega) (by omega)) _).trans g9)))) okX9_eat kw_4_220 ⟨kw_4_222, kw_0_24⟩ ⟨rfl, rfl⟩ ⟨Nat.le_of_ble_eq_true rfl, Nat.le_of_ble_eq_true rfl⟩ rfl (by omega) (by omega) lay_1 rfl rfl (Nat.le_of_ble_eq_true rfl) ⟨Nat.le_of_ble_eq_true rfl, Nat.le_of_ble_eq_true rfl⟩ rfl rfl dX9_goBy_37 rfl (fun M27 P28 => ?_)
          have F29 := P28
          refine g_aload_n (n := 41) X 0 dX9_goBy_40 rfl rfl rfl ?_
          refine g_callVv (n := 44) (As := []) (rest := []) (cs1 := 0) (ss1 := 0) X (c_X9_fallIll (by omega) g (by omega) ((congrFun (F29 1) _).trans ((congrFun (F25 1) _).trans ((congrFun (F21 1) _).trans ((congrFun (F17 1 (by omega) (by omega)) _).trans g11)))) ((congrFun (F29 15) _).trans ((congrFun (F25 15) _).trans ((congrFun (F21 15) _).trans ((congrFun (F17 15 (by omega) (by omega)) _).trans ((congrFun (F6 15 (by omega) (by omega) (by omega)) _).trans f_15_1))))) ((congrFun (F29 1) _).trans ((congrFun (F25 1) _).trans ((congrFun (F21 1) _).trans ((congrFun (F17 1 (by omega) (by omega)) _).trans g7)))) ((congrFun (F29 1) _).trans ((congrFun (F25 1) _).trans ((congrFun (F21 1) _).trans ((congrFun (F17 1 (by omega) (by omega)) _).trans g8)))) (fun i h0 h1 => (congrFun ((F29 17).trans ((F25 17).trans ((F21 17).trans ((F17 17 (by omega) (by omega)).trans ((F6 17 (by omega) (by omega) (by omega)).trans rfl))))) i).trans (frost0 i h0 h1))) okX9_fallIll kw_4_224 ⟨kw_4_226, kw_0_25⟩ ⟨rfl, rfl⟩ ⟨Nat.le_of_ble_eq_true rfl, Nat.le_of_ble_eq_true rfl⟩ rfl (by omega) (by omega) lay_1 rfl rfl (Nat.le_of_ble_eq_true rfl) ⟨Nat.le_of_ble_eq_true rfl, Nat.le_of_ble_eq_true rfl⟩ rfl rfl dX9_goBy_41 rfl (fun M31 P32 => ?_)
          have F33 := P32
          refine g_aload_n (n := 45) X 0 dX9_goBy_44 rfl rfl rfl ?_
          refine g_callVv (n := 48) (As := []) (rest := []) (cs1 := 0) (ss1 := 0) X (c_X9_die (by omega) ((congrFun (F33 1) _).trans ((congrFun (F29 1) _).trans ((congrFun (F25 1) _).trans ((congrFun (F21 1) _).trans ((congrFun (F17 1 (by omega) (by omega)) _).trans g8)))))) okX9_die kw_4_228 ⟨kw_4_230, kw_0_26⟩ ⟨rfl, rfl⟩ ⟨Nat.le_of_ble_eq_true rfl, Nat.le_of_ble_eq_true rfl⟩ rfl (by omega) (by omega) lay_1 rfl rfl (Nat.le_of_ble_eq_true rfl) ⟨Nat.le_of_ble_eq_true rfl, Nat.le_of_ble_eq_true rfl⟩ rfl rfl dX9_goBy_45 rfl (fun M35 P36 => ?_)
          have F37 := P36
          refine g_aload_n (n := 49) X 0 dX9_goBy_48 rfl rfl rfl ?_
          refine g_callVv (n := 52) (As := []) (rest := []) (cs1 := 0) (ss1 := 0) X (c_X9_leaveHouse (by omega) g (by omega) ((congrFun (F37 1) _).trans ((congrFun (F33 1) _).trans ((congrFun (F29 1) _).trans ((congrFun (F25 1) _).trans ((congrFun (F21 1) _).trans ((congrFun (F17 1 (by omega) (by omega)) _).trans g11)))))) ((congrFun (F37 15) _).trans ((congrFun (F33 15) _).trans ((congrFun (F29 15) _).trans ((congrFun (F25 15) _).trans ((congrFun (F21 15) _).trans ((congrFun (F17 15 (by omega) (by omega)) _).trans ((congrFun (F6 15 (by omega) (by omega) (by omega)) _).trans f_15_1))))))) ((congrFun (F37 1) _).trans ((congrFun (F33 1) _).trans ((congrFun (F29 1) _).trans ((congrFun (F25 1) _).trans ((congrFun (F21 1) _).trans ((congrFun (F17 1 (by omega) (by omega)) _).trans g7)))))) ((congrFun (F37 1) _).trans ((congrFun (F33 1) _).trans ((congrFun (F29 1) _).trans ((congrFun (F25 1) _).trans ((congrFun (F21 1) _).trans ((congrFun (F17 1 (by omega) (by omega)) _).trans g8)))))) (fun i h0 h1 => (congrFun ((F37 17).trans ((F33 17).trans ((F29 17).trans ((F25 17).trans ((F21 17).trans ((F17 17 (by omega) (by omega)).trans ((F6 17 (by omega) (by omega) (by omega)).trans rfl))))))) i).trans (frost0 i h0 h1))) okX9_leaveHouse kw_4_232 ⟨kw_4_234, kw_0_27⟩ ⟨rfl, rfl⟩ ⟨Nat.le_of_ble_eq_true rfl, Nat.le_of_ble_eq_true rfl⟩ rfl (by omega) (by omega) lay_1 rfl rfl (Nat.le_of_ble_eq_true rfl) ⟨Nat.le_of_ble_eq_true rfl, Nat.le_of_ble_eq_true rfl⟩ rfl rfl dX9_goBy_49 rfl (fun M39 P40 => ?_)
          have F41 := P40
          refine g_iconst (n := 53) X dX9_goBy_52 rfl ?_
          refine g_istore_n (n := 54) (L' := [(3, gJ 0), (0, gA n0 1), (1, gJ a), (2, gJ g)]) X dX9_goBy_53 rfl (by decide) rfl rfl ?_
          refine g_iload_n (n := 55) X 0 dX9_goBy_54 rfl rfl rfl ?_
          refine g_aload_n (n := 56) X 1 dX9_goBy_55 rfl rfl rfl ?_
          refine gg_9_10 (n := 59) (z := 0) X (by omega) (by omega) lay_1 kw_2_126 dX9_goBy_56 rfl ((congrFun (F41 1) _).trans ((congrFun (F37 1) _).trans ((congrFun (F33 1) _).trans ((congrFun (F29 1) _).trans ((congrFun (F25 1) _).trans ((congrFun (F21 1) _).trans ((congrFun (F17 1 (by omega) (by omega)) _).trans g8))))))) ?_
          refine g_icmp_ge (n := 62) (tgt := 109) X dX9_goBy_59 (by decide) (by omega) (by omega) rfl (fun c42 => ?_) (fun c42 => by exfalso; omega)
          refine g_aload_n (n := 110) X 1 dX9_goBy_109 rfl rfl rfl ?_
          refine gg_9_7 (n := 113) (z := 23) X (by omega) (by omega) lay_1 kw_2_120 dX9_goBy_110 rfl ((congrFun (F41 1) _).trans ((congrFun (F37 1) _).trans ((congrFun (F33 1) _).trans ((congrFun (F29 1) _).trans ((congrFun (F25 1) _).trans ((congrFun (F21 1) _).trans ((congrFun (F17 1 (by omega) (by omega)) _).trans g10))))))) (by omega) ?_
          refine g_aload_n (n := 114) X 1 dX9_goBy_113 rfl rfl rfl ?_
          refine gg_9_15 (n := 117) (z := g) X (by omega) (by omega) lay_1 kw_2_138 dX9_goBy_114 rfl ((congrFun (F41 1) _).trans ((congrFun (F37 1) _).trans ((congrFun (F33 1) _).trans ((congrFun (F29 1) _).trans ((congrFun (F25 1) _).trans ((congrFun (F21 1) _).trans ((congrFun (F17 1 (by omega) (by omega)) _).trans g7))))))) ?_
          refine g_callVv (n := 120) (As := [gJ g]) (rest := []) (cs1 := 0) (ss1 := 0) X (c_X5_close g (by omega) (by omega) ((congrFun (F41 23) _).trans ((congrFun (F37 23) _).trans ((congrFun (F33 23) _).trans ((congrFun (F29 23) _).trans ((congrFun (F25 23) _).trans ((congrFun (F21 23) _).trans ((congrFun (F17 23 (by omega) (by omega)) _).trans ((congrFun (F6 23 (by omega) (by omega) (by omega)) _).trans f_23_0)))))))) (by omega)) okX5_close kw_5_1 ⟨kw_5_2, kw_5_3⟩ ⟨rfl, rfl⟩ ⟨Nat.le_of_ble_eq_true rfl, Nat.le_of_ble_eq_true rfl⟩ rfl (by omega) (by omega) lay_23 rfl rfl (Nat.le_of_ble_eq_true rfl) ⟨Nat.le_of_ble_eq_true rfl, Nat.le_of_ble_eq_true rfl⟩ rfl rfl dX9_goBy_117 rfl (fun M44 P45 => ?_)
          have F46 := P45
          refine g_aload_n (n := 121) X 1 dX9_goBy_120 rfl rfl rfl ?_
          refine g_dup (n := 122) X dX9_goBy_121 rfl rfl ?_
          refine gg_9_15 (n := 125) (z := g) X (by omega) (by omega) lay_1 kw_2_138 dX9_goBy_122 rfl ((congrFun (F46 1 (by omega)) _).trans ((congrFun (F41 1) _).trans ((congrFun (F37 1) _).trans ((congrFun (F33 1) _).trans ((congrFun (F29 1) _).trans ((congrFun (F25 1) _).trans ((congrFun (F21 1) _).trans ((congrFun (F17 1 (by omega) (by omega)) _).trans g7)))))))) ?_
          refine g_iconst (n := 126) X dX9_goBy_125 rfl ?_
          refine g_iadd (n := 127) (z := g + 1) X dX9_goBy_126 rfl rfl ?_
          refine gp_9_15 (n := 130) X (by omega) (by omega) lay_1 kw_2_138 dX9_goBy_127 rfl ?_
          refine G.nm (fun M47 e48 => ?_)
          refine g_iinc (n := 133) (w := g + 1) (L' := [(2, gJ (g + 1)), (3, gJ 0), (0, gA n0 1), (1, gJ a)]) X 3 dX9_goBy_130 rfl rfl (by decide) rfl rfl ?_
          refine g_goto (tgt := 2) X dX9_goBy_133 (by decide) ?_
          refine G.sub (L' := [(0, gA n0 1), (1, gJ a), (2, gJ (g + 1))]) [2, 3, 0] rfl ?_
          exact ih2 (g + 1) M47 (fun a h0 h1 h2 => ((congrFun e48 a).trans ((gset_off a (by omega)).trans ((F46 a (by omega)).trans ((F41 a).trans ((F37 a).trans ((F33 a).trans ((F29 a).trans ((F25 a).trans ((F21 a).trans ((F17 a (by omega) (by omega)).trans ((F6 a (by omega) (by omega) (by omega)).trans rfl)))))))))))) (((congrFun (congrFun e48 _) _).trans (gset_eq _ _ _ _)).trans (by omega)) (((congrFun (congrFun e48 _) _).trans ((gset_ne (by omega)).trans ((congrFun (F46 1 (by omega)) _).trans ((congrFun (F41 1) _).trans ((congrFun (F37 1) _).trans ((congrFun (F33 1) _).trans ((congrFun (F29 1) _).trans ((congrFun (F25 1) _).trans ((congrFun (F21 1) _).trans ((congrFun (F17 1 (by omega) (by omega)) _).trans g8)))))))))).trans (by omega)) (((congrFun (congrFun e48 _) _).trans ((gset_ne (by omega)).trans ((congrFun (F46 1 (by omega)) _).trans ((congrFun (F41 1) _).trans ((congrFun (F37 1) _).trans ((congrFun (F33 1) _).trans ((congrFun (F29 1) _).trans ((congrFun (F25 1) _).trans ((congrFun (F21 1) _).trans ((congrFun (F17 1 (by omega) (by omega)) _).trans g9)))))))))).trans (by omega)) (((congrFun (congrFun e48 _) _).trans ((gset_ne (by omega)).trans ((congrFun (F46 1 (by omega)) _).trans ((congrFun (F41 1) _).trans ((congrFun (F37 1) _).trans ((congrFun (F33 1) _).trans ((congrFun (F29 1) _).trans ((congrFun (F25 1) _).trans ((congrFun (F21 1) _).trans ((congrFun (F17 1 (by omega) (by omega)) _).trans g10)))))))))).trans (by omega)) (((congrFun (congrFun e48 _) _).trans ((gset_ne (by omega)).trans ((congrFun (F46 1 (by omega)) _).trans ((congrFun (F41 1) _).trans ((congrFun (F37 1) _).trans ((congrFun (F33 1) _).trans ((congrFun (F29 1) _).trans ((congrFun (F25 1) _).trans ((congrFun (F21 1) _).trans ((congrFun (F17 1 (by omega) (by omega)) _).trans g11)))))))))).trans (by omega)) (by omega) (by omega)
  refine G.sub (L' := [(0, gA n0 1), (1, gJ a), (2, gJ 0)]) [1, 2, 0] rfl ?_
  exact loop1 _ 0 M (fun a _ _ _ => rfl) (f_1_15.trans (by omega)) (f_1_10.trans (by omega)) (f_1_13.trans (by omega)) (f_1_7.trans (by omega)) (f_1_6.trans (by omega)) (by omega) (Nat.lt_succ_self _)
theorem dX11_week_0 : decode cX11_week 0 = .ok (.iload_n 1, 1) := by decide +kernel
theorem dX11_week_1 : decode cX11_week 1 = .ok (.iconst 1, 1) := by decide +kernel
theorem dX11_week_2 : decode cX11_week 2 = .ok (.bipush 20, 2) := by decide +kernel
theorem dX11_week_4 : decode cX11_week 4 = .ok (.invokestatic 62, 3) := by decide +kernel
theorem dX11_week_7 : decode cX11_week 7 = .ok (.ifCond .eq 18, 3) := by decide +kernel
theorem dX11_week_25 : decode cX11_week 25 = .ok (.bipush (-2), 2) := by decide +kernel
theorem dX11_week_27 : decode cX11_week 27 = .ok (.ireturn, 1) := by decide +kernel
theorem dX11_week_10 : decode cX11_week 10 = .ok (.aload_n 0, 1) := by decide +kernel
theorem dX11_week_11 : decode cX11_week 11 = .ok (.getfield 10, 3) := by decide +kernel
theorem dX11_week_14 : decode cX11_week 14 = .ok (.getfield 85, 3) := by decide +kernel
theorem dX11_week_17 : decode cX11_week 17 = .ok (.iload_n 1, 1) := by decide +kernel
theorem dX11_week_18 : decode cX11_week 18 = .ok (.iadd, 1) := by decide +kernel
theorem dX11_week_19 : decode cX11_week 19 = .ok (.sipush 300, 3) := by decide +kernel
theorem dX11_week_22 : decode cX11_week 22 = .ok (.if_icmp .le 6, 3) := by decide +kernel
theorem dX11_week_28 : decode cX11_week 28 = .ok (.aload_n 0, 1) := by decide +kernel
theorem dX11_week_29 : decode cX11_week 29 = .ok (.invokevirtual 231, 3) := by decide +kernel
theorem kw_4_97 : (Jvm.Cond.methodLink "ParishUnion" (231 : Nat) ({ cls := "ParishUnion", name := "findHomes", desc := "()V" } : Jvm.MethodName)) ∈ gT := gT_of (tb_4 _ (List.mem_of_getElem? (i := 97) rfl)) rfl
theorem kw_4_100 : (Jvm.Cond.code ({ cls := "ParishUnion", name := "findHomes", desc := "()V" } : Jvm.MethodName) prog_1_method_58_code (2 : Nat) (Option.none : Option Jvm.ClassFile.FieldType)) ∈ gT := gT_of (tb_4 _ (List.mem_of_getElem? (i := 100) rfl)) rfl
theorem okX11_findHomes : gQok yX11_findHomes cX11_findHomes 2 (Option.none : Option Jvm.ClassFile.FieldType) 0 := ⟨kw_4_100, kw_1_1, by decide +kernel, by decide +kernel, by decide +kernel⟩
theorem kw_4_99 : (Jvm.Cond.instanceMethod ({ cls := "ParishUnion", name := "findHomes", desc := "()V" } : Jvm.MethodName)) ∈ gT := gT_of (tb_4 _ (List.mem_of_getElem? (i := 99) rfl)) rfl
theorem kw_0_17 : (Jvm.Cond.selects "ParishUnion" ({ cls := "ParishUnion", name := "findHomes", desc := "()V" } : Jvm.MethodName) ({ cls := "ParishUnion", name := "findHomes", desc := "()V" } : Jvm.MethodName)) ∈ gT := gT_of (tb_0 _ (List.mem_of_getElem? (i := 17) rfl)) rfl
theorem dX11_week_32 : decode cX11_week 32 = .ok (.aload_n 0, 1) := by decide +kernel
theorem dX11_week_33 : decode cX11_week 33 = .ok (.getfield 10, 3) := by decide +kernel
theorem dX11_week_36 : decode cX11_week 36 = .ok (.iload_n 1, 1) := by decide +kernel
theorem dX11_week_37 : decode cX11_week 37 = .ok (.invokevirtual 297, 3) := by decide +kernel
theorem kw_4_185 : (Jvm.Cond.methodLink "ParishUnion" (297 : Nat) ({ cls := "ParishUnion$Union", name := "goBy", desc := "(I)V" } : Jvm.MethodName)) ∈ gT := gT_of (tb_4 _ (List.mem_of_getElem? (i := 185) rfl)) rfl
theorem kw_4_188 : (Jvm.Cond.code ({ cls := "ParishUnion$Union", name := "goBy", desc := "(I)V" } : Jvm.MethodName) prog_11_method_12_code (4 : Nat) (Option.none : Option Jvm.ClassFile.FieldType)) ∈ gT := gT_of (tb_4 _ (List.mem_of_getElem? (i := 188) rfl)) rfl
theorem okX9_goBy : gQok yX9_goBy cX9_goBy 4 (Option.none : Option Jvm.ClassFile.FieldType) 1 := ⟨kw_4_188, kw_1_2, by decide +kernel, by decide +kernel, by decide +kernel⟩
theorem kw_4_186 : (Jvm.Cond.instanceMethod ({ cls := "ParishUnion$Union", name := "goBy", desc := "(I)V" } : Jvm.MethodName)) ∈ gT := gT_of (tb_4 _ (List.mem_of_getElem? (i := 186) rfl)) rfl
theorem kw_4_187 : (Jvm.Cond.selects "ParishUnion$Union" ({ cls := "ParishUnion$Union", name := "goBy", desc := "(I)V" } : Jvm.MethodName) ({ cls := "ParishUnion$Union", name := "goBy", desc := "(I)V" } : Jvm.MethodName)) ∈ gT := gT_of (tb_4 _ (List.mem_of_getElem? (i := 187) rfl)) rfl
theorem dX11_week_40 : decode cX11_week 40 = .ok (.aload_n 0, 1) := by decide +kernel
theorem dX11_week_41 : decode cX11_week 41 = .ok (.getfield 10, 3) := by decide +kernel
theorem dX11_week_44 : decode cX11_week 44 = .ok (.getfield 85, 3) := by decide +kernel
theorem dX11_week_47 : decode cX11_week 47 = .ok (.ireturn, 1) := by decide +kernel
set_option maxRecDepth 100000 in
set_option maxHeartbeats 4000000 in
theorem c_X11_week {l : Launch} {n0 : Nat} {D : va_G} {cA : Nat → ClassId} {M : gM} (a : Int) (r_a : -2147483648 ≤ a ∧ a ≤ 2147483647) {sz : Nat} (hsz : 206 ≤ sz) (f_0_0 : M 0 0 = 2) (f_0_1 : M 0 1 = 154) (f_1_12 : M 1 12 = 0) (f_1_11 : M 1 11 = 0) (f_1_15 : M 1 15 = 0) (f_1_10 : M 1 10 = 0) (f_1_13 : M 1 13 = 0) (f_1_7 : M 1 7 = 24) (f_1_6 : M 1 6 = 16) (f_15_1 : M 15 1 = 18) (f_23_0 : M 23 0 = 25) (f_23_1 : M 23 1 = 26) (frost0 : ∀ i : Int, 0 ≤ i → i < 301 → M 17 i = 0) : Met l yX11_week (gWsOf yX11_week cX11_week 2 (Option.some Jvm.ClassFile.FieldType.int)) { frames := 7, cells := 0, slots := 0, locals := 192 } (gPc n0 D cA [gA n0 0, gJ a] M sz) (gQi n0 D cA sz (fun z M1 => (((¬(1 ≤ a ∧ a ≤ 20)) → z = -2) ∧ (¬(¬(1 ≤ a ∧ a ≤ 20)) → (z = a))) ∧ ∀ a : Int, a ≠ 1 → a ≠ 24 → a ≠ 25 → a ≠ 153 → M1 a = M a)) 0 0 (fun q => n0 ≤ q) := by
  refine gMet_of [gA n0 0, gJ a] (by decide) (Nat.le_of_ble_eq_true rfl) ?_
  intro p e s m args below meth cd X hr hm
  have X : gCx p s m args meth cd n0 D cA "ParishUnion" cX11_week 2 := X
  show G p l e ({ frames := 7, cells := 0, slots := 0, locals := 192 } : Room) s m args below meth cd n0 D cA 2 (MQ below (gQi n0 D cA sz (fun z M1 => (((¬(1 ≤ a ∧ a ≤ 20)) → z = -2) ∧ (¬(¬(1 ≤ a ∧ a ≤ 20)) → (z = a))) ∧ ∀ a : Int, a ≠ 1 → a ≠ 24 → a ≠ 25 → a ≠ 153 → M1 a = M a)) args s 0 0 (fun q => n0 ≤ q)) 0 0 M sz 0 [(0, gA n0 0), (1, gJ a)] []
  refine g_iload_n (n := 1) X 1 dX11_week_0 rfl rfl rfl ?_
  refine g_iconst (n := 2) X dX11_week_1 rfl ?_
  refine g_bipush (n := 4) X dX11_week_2 (by decide +kernel) rfl ?_
  refine g_callSi (n := 7) (As := [gJ a, gJ 1, gJ 20]) (rest := []) (cs1 := 0) (ss1 := 0) X (c_X11_within a 1 20 (by omega) (by omega) (by omega) (by omega)) okX11_within kw_3_29 kw_3_30 ⟨rfl, rfl⟩ ⟨Nat.le_of_ble_eq_true rfl, Nat.le_of_ble_eq_true rfl⟩ rfl rfl (Nat.le_of_ble_eq_true rfl) ⟨Nat.le_of_ble_eq_true rfl, Nat.le_of_ble_eq_true rfl⟩ rfl rfl dX11_week_4 rfl (fun z1 M2 P3 => ?_)
  obtain ⟨rfl, P3⟩ := P3
  refine g_if_eq (n := 10) (tgt := 25) X dX11_week_7 (by decide) (by omega) rfl (fun c4 => ?_) (fun c4 => ?_)
  · refine g_bipush (n := 27) X dX11_week_25 (by decide +kernel) rfl ?_
    exact g_ireturn X hr dX11_week_27 (by exact ⟨by omega, fun a h0 h1 h2 h3 => rfl⟩)
  · refine g_aload_n (n := 11) X 0 dX11_week_10 rfl rfl rfl ?_
    refine gg_11_0 (n := 14) (z := 1) X (by omega) (by omega) lay_0 kw_2_231 dX11_week_11 rfl f_0_0 (by omega) ?_
    refine gg_9_15 (n := 17) (z := 0) X (by omega) (by omega) lay_1 kw_2_139 dX11_week_14 rfl f_1_15 ?_
    refine g_iload_n (n := 18) X 1 dX11_week_17 rfl rfl rfl ?_
    refine g_iadd (n := 19) (z := 0 + a) X dX11_week_18 rfl rfl ?_
    refine g_sipush (n := 22) X dX11_week_19 (by decide +kernel) rfl ?_
    refine g_icmp_le (n := 25) (tgt := 28) X dX11_week_22 (by decide) (by omega) (by omega) rfl (fun c5 => ?_) (fun c5 => ?_)
    · refine g_aload_n (n := 29) X 0 dX11_week_28 rfl rfl rfl ?_
      refine g_callVv (n := 32) (As := []) (rest := []) (cs1 := 0) (ss1 := 0) X (c_X11_findHomes (by omega) f_0_0 f_0_1 f_1_12 f_1_13 f_1_11 f_1_10) okX11_findHomes kw_4_97 ⟨kw_4_99, kw_0_17⟩ ⟨rfl, rfl⟩ ⟨Nat.le_of_ble_eq_true rfl, Nat.le_of_ble_eq_true rfl⟩ rfl (by omega) (by omega) lay_0 rfl rfl (Nat.le_of_ble_eq_true rfl) ⟨Nat.le_of_ble_eq_true rfl, Nat.le_of_ble_eq_true rfl⟩ rfl rfl dX11_week_29 rfl (fun M7 P8 => ?_)
      have F9 := P8
      refine g_aload_n (n := 33) X 0 dX11_week_32 rfl rfl rfl ?_
      refine gg_11_0 (n := 36) (z := 1) X (by omega) (by omega) lay_0 kw_2_231 dX11_week_33 rfl ((congrFun (F9 0 (by omega)) _).trans f_0_0) (by omega) ?_
      refine g_iload_n (n := 37) X 1 dX11_week_36 rfl rfl rfl ?_
      refine g_callVv (n := 40) (As := [gJ a]) (rest := []) (cs1 := 0) (ss1 := 0) X (c_X9_goBy a (by omega) (by omega) ((congrFun (F9 1 (by omega)) _).trans f_1_15) ((congrFun (F9 1 (by omega)) _).trans f_1_10) ((congrFun (F9 1 (by omega)) _).trans f_1_13) ((congrFun (F9 1 (by omega)) _).trans f_1_7) ((congrFun (F9 1 (by omega)) _).trans f_1_6) ((congrFun (F9 15 (by omega)) _).trans f_15_1) ((congrFun (F9 23 (by omega)) _).trans f_23_0) ((congrFun (F9 23 (by omega)) _).trans f_23_1) (by omega) (fun i h0 h1 => (congrFun ((F9 17 (by omega)).trans rfl) i).trans (frost0 i h0 h1))) okX9_goBy kw_4_185 ⟨kw_4_186, kw_4_187⟩ ⟨rfl, rfl⟩ ⟨Nat.le_of_ble_eq_true rfl, Nat.le_of_ble_eq_true rfl⟩ rfl (by omega) (by omega) lay_1 rfl rfl (Nat.le_of_ble_eq_true rfl) ⟨Nat.le_of_ble_eq_true rfl, Nat.le_of_ble_eq_true rfl⟩ rfl rfl dX11_week_37 rfl (fun M11 P12 => ?_)
      obtain ⟨g14, F13⟩ := P12
      refine g_aload_n (n := 41) X 0 dX11_week_40 rfl rfl rfl ?_
      refine gg_11_0 (n := 44) (z := 1) X (by omega) (by omega) lay_0 kw_2_231 dX11_week_41 rfl ((congrFun (F13 0 (by omega) (by omega) (by omega)) _).trans ((congrFun (F9 0 (by omega)) _).trans f_0_0)) (by omega) ?_
      refine gg_9_15 (n := 47) (z := a) X (by omega) (by omega) lay_1 kw_2_139 dX11_week_44 rfl g14 ?_
      exact g_ireturn X hr dX11_week_47 (by exact ⟨by omega, fun a h0 h1 h2 h3 => ((F13 a (by omega) (by omega) (by omega)).trans ((F9 a (by omega)).trans rfl))⟩)
    · refine g_bipush (n := 27) X dX11_week_25 (by decide +kernel) rfl ?_
      exact g_ireturn X hr dX11_week_27 (by exact ⟨by omega, fun a h0 h1 h2 h3 => rfl⟩)
