theorem dX0_compares_0 : decode cX0_compares 0 = .ok (.iload_n 1, 1) := dc_27 (by decide +kernel)
theorem dX0_compares_1 : decode cX0_compares 1 = .ok (.iconst 2, 1) := dc_5 (by decide +kernel)
theorem dX0_compares_2 : decode cX0_compares 2 = .ok (.iadd, 1) := dc_96 (by decide +kernel)
theorem dX0_compares_3 : decode cX0_compares 3 = .ok (.aload_n 0, 1) := dc_42 (by decide +kernel)
theorem dX0_compares_4 : decode cX0_compares 4 = .ok (.getfield 34, 3) := dc_180 0 34 (by decide +kernel)
theorem kw_2_82 : (Jvm.Cond.fieldLink "ParishUnion$Act" (34 : Nat) "ParishUnion$Act" "size" "I") ∈ gT := gT_of (tb_2 _ (List.mem_of_getElem? (i := 82) rfl)) rfl
theorem dX0_compares_7 : decode cX0_compares 7 = .ok (.if_icmp .lt 5, 3) := dc_161 0 5 5 (by decide +kernel)
theorem dX0_compares_12 : decode cX0_compares 12 = .ok (.aload_n 0, 1) := dc_42 (by decide +kernel)
theorem dX0_compares_13 : decode cX0_compares 13 = .ok (.getfield 9, 3) := dc_180 0 9 (by decide +kernel)
theorem kw_2_71 : (Jvm.Cond.fieldLink "ParishUnion$Act" (9 : Nat) "ParishUnion$Act" "text" "[B") ∈ gT := gT_of (tb_2 _ (List.mem_of_getElem? (i := 71) rfl)) rfl
theorem dX0_compares_16 : decode cX0_compares 16 = .ok (.iload_n 1, 1) := dc_27 (by decide +kernel)
theorem dX0_compares_17 : decode cX0_compares 17 = .ok (.iconst 2, 1) := dc_5 (by decide +kernel)
theorem dX0_compares_18 : decode cX0_compares 18 = .ok (.iadd, 1) := dc_96 (by decide +kernel)
theorem dX0_compares_19 : decode cX0_compares 19 = .ok (.baload, 1) := dc_51 (by decide +kernel)
theorem dX0_compares_20 : decode cX0_compares 20 = .ok (.bipush 48, 2) := dc_16 48 48 (by decide +kernel)
theorem dX0_compares_22 : decode cX0_compares 22 = .ok (.isub, 1) := dc_100 (by decide +kernel)
theorem dX0_compares_23 : decode cX0_compares 23 = .ok (.istore_n 3, 1) := dc_62 (by decide +kernel)
theorem dX0_compares_24 : decode cX0_compares 24 = .ok (.iload_n 1, 1) := dc_27 (by decide +kernel)
theorem dX0_compares_25 : decode cX0_compares 25 = .ok (.iconst 3, 1) := dc_6 (by decide +kernel)
theorem dX0_compares_26 : decode cX0_compares 26 = .ok (.iadd, 1) := dc_96 (by decide +kernel)
theorem dX0_compares_27 : decode cX0_compares 27 = .ok (.aload_n 0, 1) := dc_42 (by decide +kernel)
theorem dX0_compares_28 : decode cX0_compares 28 = .ok (.getfield 34, 3) := dc_180 0 34 (by decide +kernel)
theorem dX0_compares_31 : decode cX0_compares 31 = .ok (.if_icmp .ge 46, 3) := dc_162 0 46 46 (by decide +kernel)
theorem dX0_compares_77 : decode cX0_compares 77 = .ok (.aload_n 0, 1) := dc_42 (by decide +kernel)
theorem dX0_compares_78 : decode cX0_compares 78 = .ok (.getfield 9, 3) := dc_180 0 9 (by decide +kernel)
theorem dX0_compares_81 : decode cX0_compares 81 = .ok (.iload_n 1, 1) := dc_27 (by decide +kernel)
theorem dX0_compares_82 : decode cX0_compares 82 = .ok (.iconst 1, 1) := dc_4 (by decide +kernel)
theorem dX0_compares_83 : decode cX0_compares 83 = .ok (.iadd, 1) := dc_96 (by decide +kernel)
theorem dX0_compares_84 : decode cX0_compares 84 = .ok (.baload, 1) := dc_51 (by decide +kernel)
theorem dX0_compares_85 : decode cX0_compares 85 = .ok (.lookupswitch 49 #[(60, 27), (62, 38)], 27) := by decide +kernel
theorem dX0_compares_112 : decode cX0_compares 112 = .ok (.iload_n 2, 1) := dc_28 (by decide +kernel)
theorem dX0_compares_113 : decode cX0_compares 113 = .ok (.iload_n 3, 1) := dc_29 (by decide +kernel)
theorem dX0_compares_114 : decode cX0_compares 114 = .ok (.if_icmp .ge 7, 3) := dc_162 0 7 7 (by decide +kernel)
theorem dX0_compares_121 : decode cX0_compares 121 = .ok (.iconst 0, 1) := dc_3 (by decide +kernel)
theorem dX0_compares_122 : decode cX0_compares 122 = .ok (.ireturn, 1) := dc_172 (by decide +kernel)
theorem dX0_compares_117 : decode cX0_compares 117 = .ok (.iconst 1, 1) := dc_4 (by decide +kernel)
theorem dX0_compares_118 : decode cX0_compares 118 = .ok (.goto 4, 3) := dc_167 0 4 4 (by decide +kernel)
theorem dX0_compares_123 : decode cX0_compares 123 = .ok (.iload_n 2, 1) := dc_28 (by decide +kernel)
theorem dX0_compares_124 : decode cX0_compares 124 = .ok (.iload_n 3, 1) := dc_29 (by decide +kernel)
theorem dX0_compares_125 : decode cX0_compares 125 = .ok (.if_icmp .le 7, 3) := dc_164 0 7 7 (by decide +kernel)
theorem dX0_compares_132 : decode cX0_compares 132 = .ok (.iconst 0, 1) := dc_3 (by decide +kernel)
theorem dX0_compares_133 : decode cX0_compares 133 = .ok (.ireturn, 1) := dc_172 (by decide +kernel)
theorem dX0_compares_128 : decode cX0_compares 128 = .ok (.iconst 1, 1) := dc_4 (by decide +kernel)
theorem dX0_compares_129 : decode cX0_compares 129 = .ok (.goto 4, 3) := dc_167 0 4 4 (by decide +kernel)
theorem dX0_compares_134 : decode cX0_compares 134 = .ok (.iload_n 2, 1) := dc_28 (by decide +kernel)
theorem dX0_compares_135 : decode cX0_compares 135 = .ok (.iload_n 3, 1) := dc_29 (by decide +kernel)
theorem dX0_compares_136 : decode cX0_compares 136 = .ok (.if_icmp .ne 7, 3) := dc_160 0 7 7 (by decide +kernel)
theorem dX0_compares_143 : decode cX0_compares 143 = .ok (.iconst 0, 1) := dc_3 (by decide +kernel)
theorem dX0_compares_144 : decode cX0_compares 144 = .ok (.ireturn, 1) := dc_172 (by decide +kernel)
theorem dX0_compares_139 : decode cX0_compares 139 = .ok (.iconst 1, 1) := dc_4 (by decide +kernel)
theorem dX0_compares_140 : decode cX0_compares 140 = .ok (.goto 4, 3) := dc_167 0 4 4 (by decide +kernel)
theorem dX0_compares_34 : decode cX0_compares 34 = .ok (.aload_n 0, 1) := dc_42 (by decide +kernel)
theorem dX0_compares_35 : decode cX0_compares 35 = .ok (.getfield 9, 3) := dc_180 0 9 (by decide +kernel)
theorem dX0_compares_38 : decode cX0_compares 38 = .ok (.iload_n 1, 1) := dc_27 (by decide +kernel)
theorem dX0_compares_39 : decode cX0_compares 39 = .ok (.iconst 3, 1) := dc_6 (by decide +kernel)
theorem dX0_compares_40 : decode cX0_compares 40 = .ok (.iadd, 1) := dc_96 (by decide +kernel)
theorem dX0_compares_41 : decode cX0_compares 41 = .ok (.baload, 1) := dc_51 (by decide +kernel)
theorem dX0_compares_42 : decode cX0_compares 42 = .ok (.bipush 48, 2) := dc_16 48 48 (by decide +kernel)
theorem dX0_compares_44 : decode cX0_compares 44 = .ok (.if_icmp .lt 33, 3) := dc_161 0 33 33 (by decide +kernel)
theorem dX0_compares_47 : decode cX0_compares 47 = .ok (.aload_n 0, 1) := dc_42 (by decide +kernel)
theorem dX0_compares_48 : decode cX0_compares 48 = .ok (.getfield 9, 3) := dc_180 0 9 (by decide +kernel)
theorem dX0_compares_51 : decode cX0_compares 51 = .ok (.iload_n 1, 1) := dc_27 (by decide +kernel)
theorem dX0_compares_52 : decode cX0_compares 52 = .ok (.iconst 3, 1) := dc_6 (by decide +kernel)
theorem dX0_compares_53 : decode cX0_compares 53 = .ok (.iadd, 1) := dc_96 (by decide +kernel)
theorem dX0_compares_54 : decode cX0_compares 54 = .ok (.baload, 1) := dc_51 (by decide +kernel)
theorem dX0_compares_55 : decode cX0_compares 55 = .ok (.bipush 57, 2) := dc_16 57 57 (by decide +kernel)
theorem dX0_compares_57 : decode cX0_compares 57 = .ok (.if_icmp .gt 20, 3) := dc_163 0 20 20 (by decide +kernel)
theorem dX0_compares_60 : decode cX0_compares 60 = .ok (.bipush 10, 2) := dc_16 10 10 (by decide +kernel)
theorem dX0_compares_62 : decode cX0_compares 62 = .ok (.iload_n 3, 1) := dc_29 (by decide +kernel)
theorem dX0_compares_63 : decode cX0_compares 63 = .ok (.imul, 1) := dc_104 (by decide +kernel)
theorem dX0_compares_64 : decode cX0_compares 64 = .ok (.aload_n 0, 1) := dc_42 (by decide +kernel)
theorem dX0_compares_65 : decode cX0_compares 65 = .ok (.getfield 9, 3) := dc_180 0 9 (by decide +kernel)
theorem dX0_compares_68 : decode cX0_compares 68 = .ok (.iload_n 1, 1) := dc_27 (by decide +kernel)
theorem dX0_compares_69 : decode cX0_compares 69 = .ok (.iconst 3, 1) := dc_6 (by decide +kernel)
theorem dX0_compares_70 : decode cX0_compares 70 = .ok (.iadd, 1) := dc_96 (by decide +kernel)
theorem dX0_compares_71 : decode cX0_compares 71 = .ok (.baload, 1) := dc_51 (by decide +kernel)
theorem dX0_compares_72 : decode cX0_compares 72 = .ok (.iadd, 1) := dc_96 (by decide +kernel)
theorem dX0_compares_73 : decode cX0_compares 73 = .ok (.bipush 48, 2) := dc_16 48 48 (by decide +kernel)
theorem dX0_compares_75 : decode cX0_compares 75 = .ok (.isub, 1) := dc_100 (by decide +kernel)
theorem dX0_compares_76 : decode cX0_compares 76 = .ok (.istore_n 3, 1) := dc_62 (by decide +kernel)
theorem dX0_compares_10 : decode cX0_compares 10 = .ok (.iconst 0, 1) := dc_3 (by decide +kernel)
theorem dX0_compares_11 : decode cX0_compares 11 = .ok (.ireturn, 1) := dc_172 (by decide +kernel)
abbrev R_X0_compares : Room := { frames := 0, cells := 0, slots := 0, locals := 0 }
set_option maxRecDepth 100000 in
set_option maxHeartbeats 4000000 in
theorem s_X0_compares {l : Launch} {n0 : Nat} {D : va_G} {cA : Nat → ClassId} {M : gM} (o : Int) (r_o : 87 ≤ o ∧ o ≤ 147 ∧ (o - 87) % 6 = 0) (a : Int) (r_a : 0 ≤ a ∧ a ≤ 149) (b : Int) (r_b : -2147483648 ≤ b ∧ b ≤ 2147483647) {sz : Nat} (hsz : 206 ≤ sz) (I : gI sz M) (C : gC sz M)   : Met l yX0_compares (gWsOf yX0_compares cX0_compares 4 (Option.some Jvm.ClassFile.FieldType.boolean)) R_X0_compares (gPc n0 D cA [gA n0 o, gJ a, gJ b] M sz) (gQi n0 D cA sz (fun z M1 => M = M1 ∧ (0 ≤ z ∧ z ≤ 1))) 0 0 (fun q => n0 ≤ q) := by
  refine gMetZ [gA n0 o, gJ a, gJ b] (by decide) (Nat.le_of_ble_eq_true rfl) ⟨rfl, rfl⟩ ?_
  intro p e s m args below meth cd Q X hq
  have X : gCx p s m args meth cd n0 D cA "ParishUnion$Act" cX0_compares 4 := X
  show G p l e R_X0_compares s m args below meth cd n0 D cA 4 Q 0 0 M sz 0 [(0, gA n0 o), (1, gJ a), (2, gJ b)] []
  refine g_iload_n (n := 1) X 1 dX0_compares_0 rfl rfl rfl ?_
  refine g_iconst (n := 2) X dX0_compares_1 rfl ?_
  refine g_iadd (n := 3) (z := a + 2) X dX0_compares_2 (by omega) rfl ?_
  refine g_aload_n (n := 4) X 0 dX0_compares_3 rfl rfl rfl ?_
  obtain ⟨v1, hv1, rv1⟩ := gRd I (Ao0 r_o) (Aosz hsz r_o) (rA_5 r_o).1
  refine gg_0_5 (n := 7) (z := v1) X (Ao0 r_o) (Aosz hsz r_o) (lay2_A r_o) kw_2_82 dX0_compares_4 rfl hv1 ?_
  refine g_icmp_lt (n := 10) (tgt := 12) X dX0_compares_7 (by decide) (by omega) (by omega) rfl (fun c2 => ?_) (fun c2 => ?_)
  · refine g_aload_n (n := 13) X 0 dX0_compares_12 rfl rfl rfl ?_
    refine gg_0_0 (n := 16) (z := o + 1) X (Ao0 r_o) (Aosz hsz r_o) (lay2_A r_o) kw_2_71 dX0_compares_13 rfl (rfA_0 I hsz r_o) (by omega) ?_
    refine g_iload_n (n := 17) X 1 dX0_compares_16 rfl rfl rfl ?_
    refine g_iconst (n := 18) X dX0_compares_17 rfl ?_
    refine g_iadd (n := 19) (z := a + 2) X dX0_compares_18 (by omega) rfl ?_
    obtain ⟨v3, hv3, rv3⟩ := gRd I (A1o0 r_o) (A1osz hsz r_o) (rAA_1 r_o (a + 2)).1
    refine g_bald2 (n := 20) (v := v3) X (A1o0 r_o) (A1osz hsz r_o) (lay2_A1 r_o) (by omega) (by omega) (by decide) dX0_compares_19 rfl hv3 ?_
    refine g_bipush (n := 22) X dX0_compares_20 (by decide +kernel) rfl ?_
    refine g_isub (n := 23) (z := v3 - 48) X dX0_compares_22 (by omega) rfl ?_
    refine g_istore_n (n := 24) (L' := [(3, gJ (v3 - 48)), (0, gA n0 o), (1, gJ a), (2, gJ b)]) X dX0_compares_23 rfl (by decide) rfl rfl ?_
    refine g_iload_n (n := 25) X 2 dX0_compares_24 rfl rfl rfl ?_
    refine g_iconst (n := 26) X dX0_compares_25 rfl ?_
    refine g_iadd (n := 27) (z := a + 3) X dX0_compares_26 (by omega) rfl ?_
    refine g_aload_n (n := 28) X 1 dX0_compares_27 rfl rfl rfl ?_
    refine gg_0_5 (n := 31) (z := v1) X (Ao0 r_o) (Aosz hsz r_o) (lay2_A r_o) kw_2_82 dX0_compares_28 rfl hv1 ?_
    refine g_icmp_ge (n := 34) (tgt := 77) X dX0_compares_31 (by decide) (by omega) (by omega) rfl (fun c4 => ?_) (fun c4 => ?_)
    · refine g_aload_n (n := 78) X 1 dX0_compares_77 rfl rfl rfl ?_
      refine gg_0_0 (n := 81) (z := o + 1) X (Ao0 r_o) (Aosz hsz r_o) (lay2_A r_o) kw_2_71 dX0_compares_78 rfl (rfA_0 I hsz r_o) (by omega) ?_
      refine g_iload_n (n := 82) X 2 dX0_compares_81 rfl rfl rfl ?_
      refine g_iconst (n := 83) X dX0_compares_82 rfl ?_
      refine g_iadd (n := 84) (z := a + 1) X dX0_compares_83 (by omega) rfl ?_
      obtain ⟨v5, hv5, rv5⟩ := gRd I (A1o0 r_o) (A1osz hsz r_o) (rAA_1 r_o (a + 1)).1
      refine g_bald2 (n := 85) (v := v5) X (A1o0 r_o) (A1osz hsz r_o) (lay2_A1 r_o) (by omega) (by omega) (by decide) dX0_compares_84 rfl hv5 ?_
      by_cases c6 : v5 = 60
      · refine g_lookup (off := 27) (tgt := 112) X dX0_compares_85 (by omega) (by decide) (by show Op.lookupswitch.offset [(60, 27), (62, 38)] 49 v5 = 27; rw [Op.lookupswitch.offset_cons, if_pos (by omega)]) (by decide) ?_
        refine g_iload_n (n := 113) X 3 dX0_compares_112 rfl rfl rfl ?_
        refine g_iload_n (n := 114) X 0 dX0_compares_113 rfl rfl rfl ?_
        refine g_icmp_ge (n := 117) (tgt := 121) X dX0_compares_114 (by decide) (by omega) (by omega) rfl (fun c7 => ?_) (fun c7 => ?_)
        · refine g_iconst (n := 122) X dX0_compares_121 rfl ?_
          exact hq _ _ _ _ dX0_compares_122 (by omega) ⟨rfl, by omega⟩
        · refine g_iconst (n := 118) X dX0_compares_117 rfl ?_
          refine g_goto (tgt := 122) X dX0_compares_118 (by decide) ?_
          exact hq _ _ _ _ dX0_compares_122 (by omega) ⟨rfl, by omega⟩
      by_cases c8 : v5 = 62
      · refine g_lookup (off := 38) (tgt := 123) X dX0_compares_85 (by omega) (by decide) (by show Op.lookupswitch.offset [(60, 27), (62, 38)] 49 v5 = 38; rw [Op.lookupswitch.offset_cons, if_neg (by omega), Op.lookupswitch.offset_cons, if_pos (by omega)]) (by decide) ?_
        refine g_iload_n (n := 124) X 3 dX0_compares_123 rfl rfl rfl ?_
        refine g_iload_n (n := 125) X 0 dX0_compares_124 rfl rfl rfl ?_
        refine g_icmp_le (n := 128) (tgt := 132) X dX0_compares_125 (by decide) (by omega) (by omega) rfl (fun c9 => ?_) (fun c9 => ?_)
        · refine g_iconst (n := 133) X dX0_compares_132 rfl ?_
          exact hq _ _ _ _ dX0_compares_133 (by omega) ⟨rfl, by omega⟩
        · refine g_iconst (n := 129) X dX0_compares_128 rfl ?_
          refine g_goto (tgt := 133) X dX0_compares_129 (by decide) ?_
          exact hq _ _ _ _ dX0_compares_133 (by omega) ⟨rfl, by omega⟩
      refine g_lookup (off := 49) (tgt := 134) X dX0_compares_85 (by omega) (by decide) (by show Op.lookupswitch.offset [(60, 27), (62, 38)] 49 v5 = 49; rw [Op.lookupswitch.offset_cons, if_neg (by omega), Op.lookupswitch.offset_cons, if_neg (by omega), Op.lookupswitch.offset_nil]) (by decide) ?_
      refine g_iload_n (n := 135) X 3 dX0_compares_134 rfl rfl rfl ?_
      refine g_iload_n (n := 136) X 0 dX0_compares_135 rfl rfl rfl ?_
      refine g_icmp_ne (n := 139) (tgt := 143) X dX0_compares_136 (by decide) (by omega) (by omega) rfl (fun c10 => ?_) (fun c10 => ?_)
      · refine g_iconst (n := 144) X dX0_compares_143 rfl ?_
        exact hq _ _ _ _ dX0_compares_144 (by omega) ⟨rfl, by omega⟩
      · refine g_iconst (n := 140) X dX0_compares_139 rfl ?_
        refine g_goto (tgt := 144) X dX0_compares_140 (by decide) ?_
        exact hq _ _ _ _ dX0_compares_144 (by omega) ⟨rfl, by omega⟩
    · refine g_aload_n (n := 35) X 1 dX0_compares_34 rfl rfl rfl ?_
      refine gg_0_0 (n := 38) (z := o + 1) X (Ao0 r_o) (Aosz hsz r_o) (lay2_A r_o) kw_2_71 dX0_compares_35 rfl (rfA_0 I hsz r_o) (by omega) ?_
      refine g_iload_n (n := 39) X 2 dX0_compares_38 rfl rfl rfl ?_
      refine g_iconst (n := 40) X dX0_compares_39 rfl ?_
      refine g_iadd (n := 41) (z := a + 3) X dX0_compares_40 (by omega) rfl ?_
      obtain ⟨v11, hv11, rv11⟩ := gRd I (A1o0 r_o) (A1osz hsz r_o) (rAA_1 r_o (a + 3)).1
      refine g_bald2 (n := 42) (v := v11) X (A1o0 r_o) (A1osz hsz r_o) (lay2_A1 r_o) (by omega) (by omega) (by decide) dX0_compares_41 rfl hv11 ?_
      refine g_bipush (n := 44) X dX0_compares_42 (by decide +kernel) rfl ?_
      refine g_icmp_lt (n := 47) (tgt := 77) X dX0_compares_44 (by decide) (by omega) (by omega) rfl (fun c12 => ?_) (fun c12 => ?_)
      · refine g_aload_n (n := 78) X 1 dX0_compares_77 rfl rfl rfl ?_
        refine gg_0_0 (n := 81) (z := o + 1) X (Ao0 r_o) (Aosz hsz r_o) (lay2_A r_o) kw_2_71 dX0_compares_78 rfl (rfA_0 I hsz r_o) (by omega) ?_
        refine g_iload_n (n := 82) X 2 dX0_compares_81 rfl rfl rfl ?_
        refine g_iconst (n := 83) X dX0_compares_82 rfl ?_
        refine g_iadd (n := 84) (z := a + 1) X dX0_compares_83 (by omega) rfl ?_
        obtain ⟨v13, hv13, rv13⟩ := gRd I (A1o0 r_o) (A1osz hsz r_o) (rAA_1 r_o (a + 1)).1
        refine g_bald2 (n := 85) (v := v13) X (A1o0 r_o) (A1osz hsz r_o) (lay2_A1 r_o) (by omega) (by omega) (by decide) dX0_compares_84 rfl hv13 ?_
        by_cases c14 : v13 = 60
        · refine g_lookup (off := 27) (tgt := 112) X dX0_compares_85 (by omega) (by decide) (by show Op.lookupswitch.offset [(60, 27), (62, 38)] 49 v13 = 27; rw [Op.lookupswitch.offset_cons, if_pos (by omega)]) (by decide) ?_
          refine g_iload_n (n := 113) X 3 dX0_compares_112 rfl rfl rfl ?_
          refine g_iload_n (n := 114) X 0 dX0_compares_113 rfl rfl rfl ?_
          refine g_icmp_ge (n := 117) (tgt := 121) X dX0_compares_114 (by decide) (by omega) (by omega) rfl (fun c15 => ?_) (fun c15 => ?_)
          · refine g_iconst (n := 122) X dX0_compares_121 rfl ?_
            exact hq _ _ _ _ dX0_compares_122 (by omega) ⟨rfl, by omega⟩
          · refine g_iconst (n := 118) X dX0_compares_117 rfl ?_
            refine g_goto (tgt := 122) X dX0_compares_118 (by decide) ?_
            exact hq _ _ _ _ dX0_compares_122 (by omega) ⟨rfl, by omega⟩
        by_cases c16 : v13 = 62
        · refine g_lookup (off := 38) (tgt := 123) X dX0_compares_85 (by omega) (by decide) (by show Op.lookupswitch.offset [(60, 27), (62, 38)] 49 v13 = 38; rw [Op.lookupswitch.offset_cons, if_neg (by omega), Op.lookupswitch.offset_cons, if_pos (by omega)]) (by decide) ?_
          refine g_iload_n (n := 124) X 3 dX0_compares_123 rfl rfl rfl ?_
          refine g_iload_n (n := 125) X 0 dX0_compares_124 rfl rfl rfl ?_
          refine g_icmp_le (n := 128) (tgt := 132) X dX0_compares_125 (by decide) (by omega) (by omega) rfl (fun c17 => ?_) (fun c17 => ?_)
          · refine g_iconst (n := 133) X dX0_compares_132 rfl ?_
            exact hq _ _ _ _ dX0_compares_133 (by omega) ⟨rfl, by omega⟩
          · refine g_iconst (n := 129) X dX0_compares_128 rfl ?_
            refine g_goto (tgt := 133) X dX0_compares_129 (by decide) ?_
            exact hq _ _ _ _ dX0_compares_133 (by omega) ⟨rfl, by omega⟩
        refine g_lookup (off := 49) (tgt := 134) X dX0_compares_85 (by omega) (by decide) (by show Op.lookupswitch.offset [(60, 27), (62, 38)] 49 v13 = 49; rw [Op.lookupswitch.offset_cons, if_neg (by omega), Op.lookupswitch.offset_cons, if_neg (by omega), Op.lookupswitch.offset_nil]) (by decide) ?_
        refine g_iload_n (n := 135) X 3 dX0_compares_134 rfl rfl rfl ?_
        refine g_iload_n (n := 136) X 0 dX0_compares_135 rfl rfl rfl ?_
        refine g_icmp_ne (n := 139) (tgt := 143) X dX0_compares_136 (by decide) (by omega) (by omega) rfl (fun c18 => ?_) (fun c18 => ?_)
        · refine g_iconst (n := 144) X dX0_compares_143 rfl ?_
          exact hq _ _ _ _ dX0_compares_144 (by omega) ⟨rfl, by omega⟩
        · refine g_iconst (n := 140) X dX0_compares_139 rfl ?_
          refine g_goto (tgt := 144) X dX0_compares_140 (by decide) ?_
          exact hq _ _ _ _ dX0_compares_144 (by omega) ⟨rfl, by omega⟩
      · refine g_aload_n (n := 48) X 1 dX0_compares_47 rfl rfl rfl ?_
        refine gg_0_0 (n := 51) (z := o + 1) X (Ao0 r_o) (Aosz hsz r_o) (lay2_A r_o) kw_2_71 dX0_compares_48 rfl (rfA_0 I hsz r_o) (by omega) ?_
        refine g_iload_n (n := 52) X 2 dX0_compares_51 rfl rfl rfl ?_
        refine g_iconst (n := 53) X dX0_compares_52 rfl ?_
        refine g_iadd (n := 54) (z := a + 3) X dX0_compares_53 (by omega) rfl ?_
        refine g_bald2 (n := 55) (v := v11) X (A1o0 r_o) (A1osz hsz r_o) (lay2_A1 r_o) (by omega) (by omega) (by decide) dX0_compares_54 rfl hv11 ?_
        refine g_bipush (n := 57) X dX0_compares_55 (by decide +kernel) rfl ?_
        refine g_icmp_gt (n := 60) (tgt := 77) X dX0_compares_57 (by decide) (by omega) (by omega) rfl (fun c19 => ?_) (fun c19 => ?_)
        · refine g_aload_n (n := 78) X 1 dX0_compares_77 rfl rfl rfl ?_
          refine gg_0_0 (n := 81) (z := o + 1) X (Ao0 r_o) (Aosz hsz r_o) (lay2_A r_o) kw_2_71 dX0_compares_78 rfl (rfA_0 I hsz r_o) (by omega) ?_
          refine g_iload_n (n := 82) X 2 dX0_compares_81 rfl rfl rfl ?_
          refine g_iconst (n := 83) X dX0_compares_82 rfl ?_
          refine g_iadd (n := 84) (z := a + 1) X dX0_compares_83 (by omega) rfl ?_
          obtain ⟨v20, hv20, rv20⟩ := gRd I (A1o0 r_o) (A1osz hsz r_o) (rAA_1 r_o (a + 1)).1
          refine g_bald2 (n := 85) (v := v20) X (A1o0 r_o) (A1osz hsz r_o) (lay2_A1 r_o) (by omega) (by omega) (by decide) dX0_compares_84 rfl hv20 ?_
          by_cases c21 : v20 = 60
          · refine g_lookup (off := 27) (tgt := 112) X dX0_compares_85 (by omega) (by decide) (by show Op.lookupswitch.offset [(60, 27), (62, 38)] 49 v20 = 27; rw [Op.lookupswitch.offset_cons, if_pos (by omega)]) (by decide) ?_
            refine g_iload_n (n := 113) X 3 dX0_compares_112 rfl rfl rfl ?_
            refine g_iload_n (n := 114) X 0 dX0_compares_113 rfl rfl rfl ?_
            refine g_icmp_ge (n := 117) (tgt := 121) X dX0_compares_114 (by decide) (by omega) (by omega) rfl (fun c22 => ?_) (fun c22 => ?_)
            · refine g_iconst (n := 122) X dX0_compares_121 rfl ?_
              exact hq _ _ _ _ dX0_compares_122 (by omega) ⟨rfl, by omega⟩
            · refine g_iconst (n := 118) X dX0_compares_117 rfl ?_
              refine g_goto (tgt := 122) X dX0_compares_118 (by decide) ?_
              exact hq _ _ _ _ dX0_compares_122 (by omega) ⟨rfl, by omega⟩
          by_cases c23 : v20 = 62
          · refine g_lookup (off := 38) (tgt := 123) X dX0_compares_85 (by omega) (by decide) (by show Op.lookupswitch.offset [(60, 27), (62, 38)] 49 v20 = 38; rw [Op.lookupswitch.offset_cons, if_neg (by omega), Op.lookupswitch.offset_cons, if_pos (by omega)]) (by decide) ?_
            refine g_iload_n (n := 124) X 3 dX0_compares_123 rfl rfl rfl ?_
            refine g_iload_n (n := 125) X 0 dX0_compares_124 rfl rfl rfl ?_
            refine g_icmp_le (n := 128) (tgt := 132) X dX0_compares_125 (by decide) (by omega) (by omega) rfl (fun c24 => ?_) (fun c24 => ?_)
            · refine g_iconst (n := 133) X dX0_compares_132 rfl ?_
              exact hq _ _ _ _ dX0_compares_133 (by omega) ⟨rfl, by omega⟩
            · refine g_iconst (n := 129) X dX0_compares_128 rfl ?_
              refine g_goto (tgt := 133) X dX0_compares_129 (by decide) ?_
              exact hq _ _ _ _ dX0_compares_133 (by omega) ⟨rfl, by omega⟩
          refine g_lookup (off := 49) (tgt := 134) X dX0_compares_85 (by omega) (by decide) (by show Op.lookupswitch.offset [(60, 27), (62, 38)] 49 v20 = 49; rw [Op.lookupswitch.offset_cons, if_neg (by omega), Op.lookupswitch.offset_cons, if_neg (by omega), Op.lookupswitch.offset_nil]) (by decide) ?_
          refine g_iload_n (n := 135) X 3 dX0_compares_134 rfl rfl rfl ?_
          refine g_iload_n (n := 136) X 0 dX0_compares_135 rfl rfl rfl ?_
          refine g_icmp_ne (n := 139) (tgt := 143) X dX0_compares_136 (by decide) (by omega) (by omega) rfl (fun c25 => ?_) (fun c25 => ?_)
          · refine g_iconst (n := 144) X dX0_compares_143 rfl ?_
            exact hq _ _ _ _ dX0_compares_144 (by omega) ⟨rfl, by omega⟩
          · refine g_iconst (n := 140) X dX0_compares_139 rfl ?_
            refine g_goto (tgt := 144) X dX0_compares_140 (by decide) ?_
            exact hq _ _ _ _ dX0_compares_144 (by omega) ⟨rfl, by omega⟩
        · refine g_bipush (n := 62) X dX0_compares_60 (by decide +kernel) rfl ?_
          refine g_iload_n (n := 63) X 0 dX0_compares_62 rfl rfl rfl ?_
          refine g_imul (n := 64) (z := 10 * (v3 - 48)) X dX0_compares_63 rfl rfl ?_
          refine g_aload_n (n := 65) X 1 dX0_compares_64 rfl rfl rfl ?_
          refine gg_0_0 (n := 68) (z := o + 1) X (Ao0 r_o) (Aosz hsz r_o) (lay2_A r_o) kw_2_71 dX0_compares_65 rfl (rfA_0 I hsz r_o) (by omega) ?_
          refine g_iload_n (n := 69) X 2 dX0_compares_68 rfl rfl rfl ?_
          refine g_iconst (n := 70) X dX0_compares_69 rfl ?_
          refine g_iadd (n := 71) (z := a + 3) X dX0_compares_70 (by omega) rfl ?_
          refine g_bald2 (n := 72) (v := v11) X (A1o0 r_o) (A1osz hsz r_o) (lay2_A1 r_o) (by omega) (by omega) (by decide) dX0_compares_71 rfl hv11 ?_
          refine g_iadd (n := 73) (z := (10 * (v3 - 48)) + v11) X dX0_compares_72 rfl rfl ?_
          refine g_bipush (n := 75) X dX0_compares_73 (by decide +kernel) rfl ?_
          refine g_isub (n := 76) (z := ((10 * (v3 - 48)) + v11) - 48) X dX0_compares_75 rfl rfl ?_
          refine g_istore_n (n := 77) (L' := [(3, gJ (((10 * (v3 - 48)) + v11) - 48)), (0, gA n0 o), (1, gJ a), (2, gJ b)]) X dX0_compares_76 rfl (by decide) rfl rfl ?_
          refine g_aload_n (n := 78) X 1 dX0_compares_77 rfl rfl rfl ?_
          refine gg_0_0 (n := 81) (z := o + 1) X (Ao0 r_o) (Aosz hsz r_o) (lay2_A r_o) kw_2_71 dX0_compares_78 rfl (rfA_0 I hsz r_o) (by omega) ?_
          refine g_iload_n (n := 82) X 2 dX0_compares_81 rfl rfl rfl ?_
          refine g_iconst (n := 83) X dX0_compares_82 rfl ?_
          refine g_iadd (n := 84) (z := a + 1) X dX0_compares_83 (by omega) rfl ?_
          obtain ⟨v26, hv26, rv26⟩ := gRd I (A1o0 r_o) (A1osz hsz r_o) (rAA_1 r_o (a + 1)).1
          refine g_bald2 (n := 85) (v := v26) X (A1o0 r_o) (A1osz hsz r_o) (lay2_A1 r_o) (by omega) (by omega) (by decide) dX0_compares_84 rfl hv26 ?_
          by_cases c27 : v26 = 60
          · refine g_lookup (off := 27) (tgt := 112) X dX0_compares_85 (by omega) (by decide) (by show Op.lookupswitch.offset [(60, 27), (62, 38)] 49 v26 = 27; rw [Op.lookupswitch.offset_cons, if_pos (by omega)]) (by decide) ?_
            refine g_iload_n (n := 113) X 3 dX0_compares_112 rfl rfl rfl ?_
            refine g_iload_n (n := 114) X 0 dX0_compares_113 rfl rfl rfl ?_
            refine g_icmp_ge (n := 117) (tgt := 121) X dX0_compares_114 (by decide) (by omega) (by omega) rfl (fun c28 => ?_) (fun c28 => ?_)
            · refine g_iconst (n := 122) X dX0_compares_121 rfl ?_
              exact hq _ _ _ _ dX0_compares_122 (by omega) ⟨rfl, by omega⟩
            · refine g_iconst (n := 118) X dX0_compares_117 rfl ?_
              refine g_goto (tgt := 122) X dX0_compares_118 (by decide) ?_
              exact hq _ _ _ _ dX0_compares_122 (by omega) ⟨rfl, by omega⟩
          by_cases c29 : v26 = 62
          · refine g_lookup (off := 38) (tgt := 123) X dX0_compares_85 (by omega) (by decide) (by show Op.lookupswitch.offset [(60, 27), (62, 38)] 49 v26 = 38; rw [Op.lookupswitch.offset_cons, if_neg (by omega), Op.lookupswitch.offset_cons, if_pos (by omega)]) (by decide) ?_
            refine g_iload_n (n := 124) X 3 dX0_compares_123 rfl rfl rfl ?_
            refine g_iload_n (n := 125) X 0 dX0_compares_124 rfl rfl rfl ?_
            refine g_icmp_le (n := 128) (tgt := 132) X dX0_compares_125 (by decide) (by omega) (by omega) rfl (fun c30 => ?_) (fun c30 => ?_)
            · refine g_iconst (n := 133) X dX0_compares_132 rfl ?_
              exact hq _ _ _ _ dX0_compares_133 (by omega) ⟨rfl, by omega⟩
            · refine g_iconst (n := 129) X dX0_compares_128 rfl ?_
              refine g_goto (tgt := 133) X dX0_compares_129 (by decide) ?_
              exact hq _ _ _ _ dX0_compares_133 (by omega) ⟨rfl, by omega⟩
          refine g_lookup (off := 49) (tgt := 134) X dX0_compares_85 (by omega) (by decide) (by show Op.lookupswitch.offset [(60, 27), (62, 38)] 49 v26 = 49; rw [Op.lookupswitch.offset_cons, if_neg (by omega), Op.lookupswitch.offset_cons, if_neg (by omega), Op.lookupswitch.offset_nil]) (by decide) ?_
          refine g_iload_n (n := 135) X 3 dX0_compares_134 rfl rfl rfl ?_
          refine g_iload_n (n := 136) X 0 dX0_compares_135 rfl rfl rfl ?_
          refine g_icmp_ne (n := 139) (tgt := 143) X dX0_compares_136 (by decide) (by omega) (by omega) rfl (fun c31 => ?_) (fun c31 => ?_)
          · refine g_iconst (n := 144) X dX0_compares_143 rfl ?_
            exact hq _ _ _ _ dX0_compares_144 (by omega) ⟨rfl, by omega⟩
          · refine g_iconst (n := 140) X dX0_compares_139 rfl ?_
            refine g_goto (tgt := 144) X dX0_compares_140 (by decide) ?_
            exact hq _ _ _ _ dX0_compares_144 (by omega) ⟨rfl, by omega⟩
  · refine g_iconst (n := 11) X dX0_compares_10 rfl ?_
    exact hq _ _ _ _ dX0_compares_11 (by omega) ⟨rfl, by omega⟩
theorem dX0_isSo_0 : decode cX0_isSo 0 = .ok (.aload_n 0, 1) := dc_42 (by decide +kernel)
theorem dX0_isSo_1 : decode cX0_isSo 1 = .ok (.getfield 9, 3) := dc_180 0 9 (by decide +kernel)
theorem dX0_isSo_4 : decode cX0_isSo 4 = .ok (.iload_n 1, 1) := dc_27 (by decide +kernel)
theorem dX0_isSo_5 : decode cX0_isSo 5 = .ok (.baload, 1) := dc_51 (by decide +kernel)
theorem dX0_isSo_6 : decode cX0_isSo 6 = .ok (.tableswitch 149 97 115 #[90, 149, 149, 149, 149, 121, 101, 111, 149, 149, 149, 149, 149, 149, 149, 139, 149, 149, 129], 90) := by decide +kernel
theorem dX0_isSo_96 : decode cX0_isSo 96 = .ok (.aload_n 0, 1) := dc_42 (by decide +kernel)
theorem dX0_isSo_97 : decode cX0_isSo 97 = .ok (.iload_n 1, 1) := dc_27 (by decide +kernel)
theorem dX0_isSo_98 : decode cX0_isSo 98 = .ok (.aload_n 2, 1) := dc_44 (by decide +kernel)
theorem dX0_isSo_99 : decode cX0_isSo 99 = .ok (.iload_n 3, 1) := dc_29 (by decide +kernel)
theorem dX0_isSo_100 : decode cX0_isSo 100 = .ok (.invokevirtual 58, 3) := dc_182 0 58 (by decide +kernel)
theorem kw_4_113 : (Jvm.Cond.methodLink "ParishUnion$Act" (58 : Nat) ({ cls := "ParishUnion$Person", name := "ageIn", desc := "(I)I" } : Jvm.MethodName)) ∈ gT := gT_of (tb_4 _ (List.mem_of_getElem? (i := 113) rfl)) rfl
theorem kw_4_116 : (Jvm.Cond.code ({ cls := "ParishUnion$Person", name := "ageIn", desc := "(I)I" } : Jvm.MethodName) prog_8_method_7_code (2 : Nat) (Option.some Jvm.ClassFile.FieldType.int)) ∈ gT := gT_of (tb_4 _ (List.mem_of_getElem? (i := 116) rfl)) rfl
theorem okX6_ageIn : gQok yX6_ageIn cX6_ageIn 2 (Option.some Jvm.ClassFile.FieldType.int) 1 := ⟨kw_4_116, kw_1_8, by decide +kernel, by decide +kernel, by decide +kernel⟩
theorem kw_4_114 : (Jvm.Cond.instanceMethod ({ cls := "ParishUnion$Person", name := "ageIn", desc := "(I)I" } : Jvm.MethodName)) ∈ gT := gT_of (tb_4 _ (List.mem_of_getElem? (i := 114) rfl)) rfl
theorem kw_4_115 : (Jvm.Cond.selects "ParishUnion$Person" ({ cls := "ParishUnion$Person", name := "ageIn", desc := "(I)I" } : Jvm.MethodName) ({ cls := "ParishUnion$Person", name := "ageIn", desc := "(I)I" } : Jvm.MethodName)) ∈ gT := gT_of (tb_4 _ (List.mem_of_getElem? (i := 115) rfl)) rfl
theorem dX0_isSo_103 : decode cX0_isSo 103 = .ok (.invokevirtual 64, 3) := dc_182 0 64 (by decide +kernel)
theorem kw_4_117 : (Jvm.Cond.methodLink "ParishUnion$Act" (64 : Nat) ({ cls := "ParishUnion$Act", name := "compares", desc := "(II)Z" } : Jvm.MethodName)) ∈ gT := gT_of (tb_4 _ (List.mem_of_getElem? (i := 117) rfl)) rfl
theorem kw_4_120 : (Jvm.Cond.code ({ cls := "ParishUnion$Act", name := "compares", desc := "(II)Z" } : Jvm.MethodName) prog_2_method_7_code (4 : Nat) (Option.some Jvm.ClassFile.FieldType.boolean)) ∈ gT := gT_of (tb_4 _ (List.mem_of_getElem? (i := 120) rfl)) rfl
theorem kw_1_10 : (Jvm.Cond.initialized "ParishUnion$Act") ∈ gT := gT_of (tb_1 _ (List.mem_of_getElem? (i := 10) rfl)) rfl
theorem okX0_compares : gQok yX0_compares cX0_compares 4 (Option.some Jvm.ClassFile.FieldType.boolean) 2 := ⟨kw_4_120, kw_1_10, by decide +kernel, by decide +kernel, by decide +kernel⟩
theorem kw_4_119 : (Jvm.Cond.instanceMethod ({ cls := "ParishUnion$Act", name := "compares", desc := "(II)Z" } : Jvm.MethodName)) ∈ gT := gT_of (tb_4 _ (List.mem_of_getElem? (i := 119) rfl)) rfl
theorem kw_0_19 : (Jvm.Cond.selects "ParishUnion$Act" ({ cls := "ParishUnion$Act", name := "compares", desc := "(II)Z" } : Jvm.MethodName) ({ cls := "ParishUnion$Act", name := "compares", desc := "(II)Z" } : Jvm.MethodName)) ∈ gT := gT_of (tb_0 _ (List.mem_of_getElem? (i := 19) rfl)) rfl
theorem dX0_isSo_106 : decode cX0_isSo 106 = .ok (.ireturn, 1) := dc_172 (by decide +kernel)
theorem dX0_isSo_155 : decode cX0_isSo 155 = .ok (.aload_n 2, 1) := dc_44 (by decide +kernel)
theorem dX0_isSo_156 : decode cX0_isSo 156 = .ok (.invokevirtual 80, 3) := dc_182 0 80 (by decide +kernel)
theorem kw_4_121 : (Jvm.Cond.methodLink "ParishUnion$Act" (80 : Nat) ({ cls := "ParishUnion$Person", name := "isAtParish", desc := "()Z" } : Jvm.MethodName)) ∈ gT := gT_of (tb_4 _ (List.mem_of_getElem? (i := 121) rfl)) rfl
theorem kw_4_124 : (Jvm.Cond.code ({ cls := "ParishUnion$Person", name := "isAtParish", desc := "()Z" } : Jvm.MethodName) prog_8_method_5_code (1 : Nat) (Option.some Jvm.ClassFile.FieldType.boolean)) ∈ gT := gT_of (tb_4 _ (List.mem_of_getElem? (i := 124) rfl)) rfl
theorem okX6_isAtParish : gQok yX6_isAtParish cX6_isAtParish 1 (Option.some Jvm.ClassFile.FieldType.boolean) 0 := ⟨kw_4_124, kw_1_8, by decide +kernel, by decide +kernel, by decide +kernel⟩
theorem kw_4_122 : (Jvm.Cond.instanceMethod ({ cls := "ParishUnion$Person", name := "isAtParish", desc := "()Z" } : Jvm.MethodName)) ∈ gT := gT_of (tb_4 _ (List.mem_of_getElem? (i := 122) rfl)) rfl
theorem kw_4_123 : (Jvm.Cond.selects "ParishUnion$Person" ({ cls := "ParishUnion$Person", name := "isAtParish", desc := "()Z" } : Jvm.MethodName) ({ cls := "ParishUnion$Person", name := "isAtParish", desc := "()Z" } : Jvm.MethodName)) ∈ gT := gT_of (tb_4 _ (List.mem_of_getElem? (i := 123) rfl)) rfl
theorem dX0_isSo_159 : decode cX0_isSo 159 = .ok (.ifCond .eq 18, 3) := dc_153 0 18 18 (by decide +kernel)
theorem dX0_isSo_177 : decode cX0_isSo 177 = .ok (.iconst 0, 1) := dc_3 (by decide +kernel)
theorem dX0_isSo_178 : decode cX0_isSo 178 = .ok (.ireturn, 1) := dc_172 (by decide +kernel)
theorem dX0_isSo_162 : decode cX0_isSo 162 = .ok (.aload_n 2, 1) := dc_44 (by decide +kernel)
theorem dX0_isSo_163 : decode cX0_isSo 163 = .ok (.getfield 77, 3) := dc_180 0 77 (by decide +kernel)
theorem kw_1_194 : (Jvm.Cond.fieldLink "ParishUnion$Act" (77 : Nat) "ParishUnion$Person" "at" "I") ∈ gT := gT_of (tb_1 _ (List.mem_of_getElem? (i := 194) rfl)) rfl
theorem dX0_isSo_166 : decode cX0_isSo 166 = .ok (.aload_n 2, 1) := dc_44 (by decide +kernel)
theorem dX0_isSo_167 : decode cX0_isSo 167 = .ok (.getfield 84, 3) := dc_180 0 84 (by decide +kernel)
theorem kw_1_224 : (Jvm.Cond.fieldLink "ParishUnion$Act" (84 : Nat) "ParishUnion$Person" "home" "I") ∈ gT := gT_of (tb_1 _ (List.mem_of_getElem? (i := 224) rfl)) rfl
theorem dX0_isSo_170 : decode cX0_isSo 170 = .ok (.if_icmp .ne 7, 3) := dc_160 0 7 7 (by decide +kernel)
theorem dX0_isSo_173 : decode cX0_isSo 173 = .ok (.iconst 1, 1) := dc_4 (by decide +kernel)
theorem dX0_isSo_174 : decode cX0_isSo 174 = .ok (.goto 4, 3) := dc_167 0 4 4 (by decide +kernel)
theorem dX0_isSo_127 : decode cX0_isSo 127 = .ok (.aload_n 0, 1) := dc_42 (by decide +kernel)
theorem dX0_isSo_128 : decode cX0_isSo 128 = .ok (.iload_n 1, 1) := dc_27 (by decide +kernel)
theorem dX0_isSo_129 : decode cX0_isSo 129 = .ok (.iload 4, 2) := dc_21 4 (by decide +kernel)
theorem dX0_isSo_131 : decode cX0_isSo 131 = .ok (.invokevirtual 64, 3) := dc_182 0 64 (by decide +kernel)
theorem dX0_isSo_134 : decode cX0_isSo 134 = .ok (.ireturn, 1) := dc_172 (by decide +kernel)
theorem dX0_isSo_107 : decode cX0_isSo 107 = .ok (.aload_n 0, 1) := dc_42 (by decide +kernel)
theorem dX0_isSo_108 : decode cX0_isSo 108 = .ok (.iload_n 1, 1) := dc_27 (by decide +kernel)
theorem dX0_isSo_109 : decode cX0_isSo 109 = .ok (.aload_n 2, 1) := dc_44 (by decide +kernel)
theorem dX0_isSo_110 : decode cX0_isSo 110 = .ok (.getfield 68, 3) := dc_180 0 68 (by decide +kernel)
theorem kw_1_189 : (Jvm.Cond.fieldLink "ParishUnion$Act" (68 : Nat) "ParishUnion$Person" "strength" "I") ∈ gT := gT_of (tb_1 _ (List.mem_of_getElem? (i := 189) rfl)) rfl
theorem dX0_isSo_113 : decode cX0_isSo 113 = .ok (.invokevirtual 64, 3) := dc_182 0 64 (by decide +kernel)
theorem dX0_isSo_116 : decode cX0_isSo 116 = .ok (.ireturn, 1) := dc_172 (by decide +kernel)
theorem dX0_isSo_117 : decode cX0_isSo 117 = .ok (.aload_n 0, 1) := dc_42 (by decide +kernel)
theorem dX0_isSo_118 : decode cX0_isSo 118 = .ok (.iload_n 1, 1) := dc_27 (by decide +kernel)
theorem dX0_isSo_119 : decode cX0_isSo 119 = .ok (.aload_n 2, 1) := dc_44 (by decide +kernel)
theorem dX0_isSo_120 : decode cX0_isSo 120 = .ok (.getfield 71, 3) := dc_180 0 71 (by decide +kernel)
theorem kw_1_198 : (Jvm.Cond.fieldLink "ParishUnion$Act" (71 : Nat) "ParishUnion$Person" "hunger" "I") ∈ gT := gT_of (tb_1 _ (List.mem_of_getElem? (i := 198) rfl)) rfl
theorem dX0_isSo_123 : decode cX0_isSo 123 = .ok (.invokevirtual 64, 3) := dc_182 0 64 (by decide +kernel)
theorem dX0_isSo_126 : decode cX0_isSo 126 = .ok (.ireturn, 1) := dc_172 (by decide +kernel)
theorem dX0_isSo_145 : decode cX0_isSo 145 = .ok (.aload_n 0, 1) := dc_42 (by decide +kernel)
theorem dX0_isSo_146 : decode cX0_isSo 146 = .ok (.iload_n 1, 1) := dc_27 (by decide +kernel)
theorem dX0_isSo_147 : decode cX0_isSo 147 = .ok (.aload_n 2, 1) := dc_44 (by decide +kernel)
theorem dX0_isSo_148 : decode cX0_isSo 148 = .ok (.getfield 77, 3) := dc_180 0 77 (by decide +kernel)
theorem dX0_isSo_151 : decode cX0_isSo 151 = .ok (.invokevirtual 64, 3) := dc_182 0 64 (by decide +kernel)
theorem dX0_isSo_154 : decode cX0_isSo 154 = .ok (.ireturn, 1) := dc_172 (by decide +kernel)
theorem dX0_isSo_135 : decode cX0_isSo 135 = .ok (.aload_n 0, 1) := dc_42 (by decide +kernel)
theorem dX0_isSo_136 : decode cX0_isSo 136 = .ok (.iload_n 1, 1) := dc_27 (by decide +kernel)
theorem dX0_isSo_137 : decode cX0_isSo 137 = .ok (.aload_n 2, 1) := dc_44 (by decide +kernel)
theorem dX0_isSo_138 : decode cX0_isSo 138 = .ok (.getfield 74, 3) := dc_180 0 74 (by decide +kernel)
theorem kw_1_177 : (Jvm.Cond.fieldLink "ParishUnion$Act" (74 : Nat) "ParishUnion$Person" "sex" "I") ∈ gT := gT_of (tb_1 _ (List.mem_of_getElem? (i := 177) rfl)) rfl
theorem dX0_isSo_141 : decode cX0_isSo 141 = .ok (.invokevirtual 64, 3) := dc_182 0 64 (by decide +kernel)
theorem dX0_isSo_144 : decode cX0_isSo 144 = .ok (.ireturn, 1) := dc_172 (by decide +kernel)
abbrev R_X0_isSo : Room := { frames := 1, cells := 0, slots := 0, locals := 23 }
set_option maxRecDepth 100000 in
set_option maxHeartbeats 4000000 in
theorem s_X0_isSo {l : Launch} {n0 : Nat} {D : va_G} {cA : Nat → ClassId} {M : gM} (o : Int) (r_o : 87 ≤ o ∧ o ≤ 147 ∧ (o - 87) % 6 = 0) (a : Int) (r_a : 0 ≤ a ∧ a ≤ 149) (ob : Int) (r_ob : 31 ≤ ob ∧ ob < 47) (c : Int) (r_c : 0 ≤ c ∧ c ≤ 300) (d : Int) (r_d : -2147483648 ≤ d ∧ d ≤ 2147483647) {sz : Nat} (hsz : 206 ≤ sz) (I : gI sz M) (C : gC sz M)   : Met l yX0_isSo (gWsOf yX0_isSo cX0_isSo 5 (Option.some Jvm.ClassFile.FieldType.boolean)) R_X0_isSo (gPc n0 D cA [gA n0 o, gJ a, gA n0 ob, gJ c, gJ d] M sz) (gQi n0 D cA sz (fun z M1 => M = M1 ∧ (0 ≤ z ∧ z ≤ 1))) 0 0 (fun q => n0 ≤ q) := by
  refine gMetZ [gA n0 o, gJ a, gA n0 ob, gJ c, gJ d] (by decide) (Nat.le_of_ble_eq_true rfl) ⟨rfl, rfl⟩ ?_
  intro p e s m args below meth cd Q X hq
  have X : gCx p s m args meth cd n0 D cA "ParishUnion$Act" cX0_isSo 5 := X
  show G p l e R_X0_isSo s m args below meth cd n0 D cA 5 Q 0 0 M sz 0 [(0, gA n0 o), (1, gJ a), (2, gA n0 ob), (3, gJ c), (4, gJ d)] []
  refine g_aload_n (n := 1) X 0 dX0_isSo_0 rfl rfl rfl ?_
  refine gg_0_0 (n := 4) (z := o + 1) X (Ao0 r_o) (Aosz hsz r_o) (lay2_A r_o) kw_2_71 dX0_isSo_1 rfl (rfA_0 I hsz r_o) (by omega) ?_
  refine g_iload_n (n := 5) X 1 dX0_isSo_4 rfl rfl rfl ?_
  obtain ⟨v1, hv1, rv1⟩ := gRd I (A1o0 r_o) (A1osz hsz r_o) (rAA_1 r_o a).1
  refine g_bald2 (n := 6) (v := v1) X (A1o0 r_o) (A1osz hsz r_o) (lay2_A1 r_o) (by omega) (by omega) (by decide) dX0_isSo_5 rfl hv1 ?_
  by_cases c2 : v1 = 97
  · refine g_tableIn (tgt := 96) X 0 dX0_isSo_6 (by omega) (by omega) (by omega) (by omega) rfl (by decide) ?_
    refine g_aload_n (n := 97) X 0 dX0_isSo_96 rfl rfl rfl ?_
    refine g_iload_n (n := 98) X 1 dX0_isSo_97 rfl rfl rfl ?_
    refine g_aload_n (n := 99) X 2 dX0_isSo_98 rfl rfl rfl ?_
    refine g_iload_n (n := 100) X 3 dX0_isSo_99 rfl rfl rfl ?_
    refine g_callVi (n := 103) (As := [gJ c]) (rest := [gJ a, gA n0 o]) (cs1 := 0) (ss1 := 0) X (s_X6_ageIn ob r_ob c (by omega) hsz I C ) okX6_ageIn kw_4_113 ⟨kw_4_114, kw_4_115⟩ ⟨rfl, rfl⟩ ⟨Nat.le_of_ble_eq_true rfl, Nat.le_of_ble_eq_true rfl⟩ rfl (Po0 r_ob) (Posz hsz r_ob) (lay2_P r_ob) rfl rfl (Nat.le_of_ble_eq_true rfl) ⟨Nat.le_of_ble_eq_true rfl, Nat.le_of_ble_eq_true rfl⟩ rfl rfl dX0_isSo_100 rfl (fun v3 M4 P5 => ?_)
    obtain ⟨rfl, rv3⟩ := P5
    refine g_callVi (n := 106) (As := [gJ a, gJ v3]) (rest := []) (cs1 := 0) (ss1 := 0) X (s_X0_compares o r_o a (by omega) v3 (by omega) hsz I C ) okX0_compares kw_4_117 ⟨kw_4_119, kw_0_19⟩ ⟨rfl, rfl⟩ ⟨Nat.le_of_ble_eq_true rfl, Nat.le_of_ble_eq_true rfl⟩ rfl (Ao0 r_o) (Aosz hsz r_o) (lay2_A r_o) rfl rfl (Nat.le_of_ble_eq_true rfl) ⟨Nat.le_of_ble_eq_true rfl, Nat.le_of_ble_eq_true rfl⟩ rfl rfl dX0_isSo_103 rfl (fun v6 M7 P8 => ?_)
    obtain ⟨rfl, rv6⟩ := P8
    exact hq _ _ _ _ dX0_isSo_106 (by omega) ⟨rfl, by omega⟩
  by_cases c9 : v1 = 98
  · refine g_tableIn (tgt := 155) X 1 dX0_isSo_6 (by omega) (by omega) (by omega) (by omega) rfl (by decide) ?_
    refine g_aload_n (n := 156) X 2 dX0_isSo_155 rfl rfl rfl ?_
    refine g_callVi (n := 159) (As := []) (rest := []) (cs1 := 0) (ss1 := 0) X (s_X6_isAtParish ob r_ob hsz I C ) okX6_isAtParish kw_4_121 ⟨kw_4_122, kw_4_123⟩ ⟨rfl, rfl⟩ ⟨Nat.le_of_ble_eq_true rfl, Nat.le_of_ble_eq_true rfl⟩ rfl (Po0 r_ob) (Posz hsz r_ob) (lay2_P r_ob) rfl rfl (Nat.le_of_ble_eq_true rfl) ⟨Nat.le_of_ble_eq_true rfl, Nat.le_of_ble_eq_true rfl⟩ rfl rfl dX0_isSo_156 rfl (fun v10 M11 P12 => ?_)
    obtain ⟨rfl, rv10, xv10⟩ := P12
    obtain ⟨v13, hv13, rv13⟩ := gRd I (Po0 r_ob) (Posz hsz r_ob) (rP_5 r_ob).1
    refine g_if_eq (n := 162) (tgt := 177) X dX0_isSo_159 (by decide) (by omega) rfl (fun c14 => ?_) (fun c14 => ?_)
    · refine g_iconst (n := 178) X dX0_isSo_177 rfl ?_
      exact hq _ _ _ _ dX0_isSo_178 (by omega) ⟨rfl, by omega⟩
    · refine g_aload_n (n := 163) X 2 dX0_isSo_162 rfl rfl rfl ?_
      refine gg_6_5 (n := 166) (z := v13) X (Po0 r_ob) (Posz hsz r_ob) (lay2_P r_ob) kw_1_194 dX0_isSo_163 rfl hv13 ?_
      refine g_aload_n (n := 167) X 2 dX0_isSo_166 rfl rfl rfl ?_
      obtain ⟨v15, hv15, rv15⟩ := gRd I (Po0 r_ob) (Posz hsz r_ob) (rP_15 r_ob).1
      refine gg_6_15 (n := 170) (z := v15) X (Po0 r_ob) (Posz hsz r_ob) (lay2_P r_ob) kw_1_224 dX0_isSo_167 rfl hv15 ?_
      refine g_icmp_ne (n := 173) (tgt := 177) X dX0_isSo_170 (by decide) (by omega) (by omega) rfl (fun c16 => ?_) (fun c16 => ?_)
      · refine g_iconst (n := 178) X dX0_isSo_177 rfl ?_
        exact hq _ _ _ _ dX0_isSo_178 (by omega) ⟨rfl, by omega⟩
      · refine g_iconst (n := 174) X dX0_isSo_173 rfl ?_
        refine g_goto (tgt := 178) X dX0_isSo_174 (by decide) ?_
        exact hq _ _ _ _ dX0_isSo_178 (by omega) ⟨rfl, by omega⟩
  by_cases c17 : v1 = 99
  · refine g_tableIn (tgt := 155) X 2 dX0_isSo_6 (by omega) (by omega) (by omega) (by omega) rfl (by decide) ?_
    refine g_aload_n (n := 156) X 2 dX0_isSo_155 rfl rfl rfl ?_
    refine g_callVi (n := 159) (As := []) (rest := []) (cs1 := 0) (ss1 := 0) X (s_X6_isAtParish ob r_ob hsz I C ) okX6_isAtParish kw_4_121 ⟨kw_4_122, kw_4_123⟩ ⟨rfl, rfl⟩ ⟨Nat.le_of_ble_eq_true rfl, Nat.le_of_ble_eq_true rfl⟩ rfl (Po0 r_ob) (Posz hsz r_ob) (lay2_P r_ob) rfl rfl (Nat.le_of_ble_eq_true rfl) ⟨Nat.le_of_ble_eq_true rfl, Nat.le_of_ble_eq_true rfl⟩ rfl rfl dX0_isSo_156 rfl (fun v18 M19 P20 => ?_)
    obtain ⟨rfl, rv18, xv18⟩ := P20
    obtain ⟨v21, hv21, rv21⟩ := gRd I (Po0 r_ob) (Posz hsz r_ob) (rP_5 r_ob).1
    refine g_if_eq (n := 162) (tgt := 177) X dX0_isSo_159 (by decide) (by omega) rfl (fun c22 => ?_) (fun c22 => ?_)
    · refine g_iconst (n := 178) X dX0_isSo_177 rfl ?_
      exact hq _ _ _ _ dX0_isSo_178 (by omega) ⟨rfl, by omega⟩
    · refine g_aload_n (n := 163) X 2 dX0_isSo_162 rfl rfl rfl ?_
      refine gg_6_5 (n := 166) (z := v21) X (Po0 r_ob) (Posz hsz r_ob) (lay2_P r_ob) kw_1_194 dX0_isSo_163 rfl hv21 ?_
      refine g_aload_n (n := 167) X 2 dX0_isSo_166 rfl rfl rfl ?_
      obtain ⟨v23, hv23, rv23⟩ := gRd I (Po0 r_ob) (Posz hsz r_ob) (rP_15 r_ob).1
      refine gg_6_15 (n := 170) (z := v23) X (Po0 r_ob) (Posz hsz r_ob) (lay2_P r_ob) kw_1_224 dX0_isSo_167 rfl hv23 ?_
      refine g_icmp_ne (n := 173) (tgt := 177) X dX0_isSo_170 (by decide) (by omega) (by omega) rfl (fun c24 => ?_) (fun c24 => ?_)
      · refine g_iconst (n := 178) X dX0_isSo_177 rfl ?_
        exact hq _ _ _ _ dX0_isSo_178 (by omega) ⟨rfl, by omega⟩
      · refine g_iconst (n := 174) X dX0_isSo_173 rfl ?_
        refine g_goto (tgt := 178) X dX0_isSo_174 (by decide) ?_
        exact hq _ _ _ _ dX0_isSo_178 (by omega) ⟨rfl, by omega⟩
  by_cases c25 : v1 = 100
  · refine g_tableIn (tgt := 155) X 3 dX0_isSo_6 (by omega) (by omega) (by omega) (by omega) rfl (by decide) ?_
    refine g_aload_n (n := 156) X 2 dX0_isSo_155 rfl rfl rfl ?_
    refine g_callVi (n := 159) (As := []) (rest := []) (cs1 := 0) (ss1 := 0) X (s_X6_isAtParish ob r_ob hsz I C ) okX6_isAtParish kw_4_121 ⟨kw_4_122, kw_4_123⟩ ⟨rfl, rfl⟩ ⟨Nat.le_of_ble_eq_true rfl, Nat.le_of_ble_eq_true rfl⟩ rfl (Po0 r_ob) (Posz hsz r_ob) (lay2_P r_ob) rfl rfl (Nat.le_of_ble_eq_true rfl) ⟨Nat.le_of_ble_eq_true rfl, Nat.le_of_ble_eq_true rfl⟩ rfl rfl dX0_isSo_156 rfl (fun v26 M27 P28 => ?_)
    obtain ⟨rfl, rv26, xv26⟩ := P28
    obtain ⟨v29, hv29, rv29⟩ := gRd I (Po0 r_ob) (Posz hsz r_ob) (rP_5 r_ob).1
    refine g_if_eq (n := 162) (tgt := 177) X dX0_isSo_159 (by decide) (by omega) rfl (fun c30 => ?_) (fun c30 => ?_)
    · refine g_iconst (n := 178) X dX0_isSo_177 rfl ?_
      exact hq _ _ _ _ dX0_isSo_178 (by omega) ⟨rfl, by omega⟩
    · refine g_aload_n (n := 163) X 2 dX0_isSo_162 rfl rfl rfl ?_
      refine gg_6_5 (n := 166) (z := v29) X (Po0 r_ob) (Posz hsz r_ob) (lay2_P r_ob) kw_1_194 dX0_isSo_163 rfl hv29 ?_
      refine g_aload_n (n := 167) X 2 dX0_isSo_166 rfl rfl rfl ?_
      obtain ⟨v31, hv31, rv31⟩ := gRd I (Po0 r_ob) (Posz hsz r_ob) (rP_15 r_ob).1
      refine gg_6_15 (n := 170) (z := v31) X (Po0 r_ob) (Posz hsz r_ob) (lay2_P r_ob) kw_1_224 dX0_isSo_167 rfl hv31 ?_
      refine g_icmp_ne (n := 173) (tgt := 177) X dX0_isSo_170 (by decide) (by omega) (by omega) rfl (fun c32 => ?_) (fun c32 => ?_)
      · refine g_iconst (n := 178) X dX0_isSo_177 rfl ?_
        exact hq _ _ _ _ dX0_isSo_178 (by omega) ⟨rfl, by omega⟩
      · refine g_iconst (n := 174) X dX0_isSo_173 rfl ?_
        refine g_goto (tgt := 178) X dX0_isSo_174 (by decide) ?_
        exact hq _ _ _ _ dX0_isSo_178 (by omega) ⟨rfl, by omega⟩
  by_cases c33 : v1 = 101
  · refine g_tableIn (tgt := 155) X 4 dX0_isSo_6 (by omega) (by omega) (by omega) (by omega) rfl (by decide) ?_
    refine g_aload_n (n := 156) X 2 dX0_isSo_155 rfl rfl rfl ?_
    refine g_callVi (n := 159) (As := []) (rest := []) (cs1 := 0) (ss1 := 0) X (s_X6_isAtParish ob r_ob hsz I C ) okX6_isAtParish kw_4_121 ⟨kw_4_122, kw_4_123⟩ ⟨rfl, rfl⟩ ⟨Nat.le_of_ble_eq_true rfl, Nat.le_of_ble_eq_true rfl⟩ rfl (Po0 r_ob) (Posz hsz r_ob) (lay2_P r_ob) rfl rfl (Nat.le_of_ble_eq_true rfl) ⟨Nat.le_of_ble_eq_true rfl, Nat.le_of_ble_eq_true rfl⟩ rfl rfl dX0_isSo_156 rfl (fun v34 M35 P36 => ?_)
    obtain ⟨rfl, rv34, xv34⟩ := P36
    obtain ⟨v37, hv37, rv37⟩ := gRd I (Po0 r_ob) (Posz hsz r_ob) (rP_5 r_ob).1
    refine g_if_eq (n := 162) (tgt := 177) X dX0_isSo_159 (by decide) (by omega) rfl (fun c38 => ?_) (fun c38 => ?_)
    · refine g_iconst (n := 178) X dX0_isSo_177 rfl ?_
      exact hq _ _ _ _ dX0_isSo_178 (by omega) ⟨rfl, by omega⟩
    · refine g_aload_n (n := 163) X 2 dX0_isSo_162 rfl rfl rfl ?_
      refine gg_6_5 (n := 166) (z := v37) X (Po0 r_ob) (Posz hsz r_ob) (lay2_P r_ob) kw_1_194 dX0_isSo_163 rfl hv37 ?_
      refine g_aload_n (n := 167) X 2 dX0_isSo_166 rfl rfl rfl ?_
      obtain ⟨v39, hv39, rv39⟩ := gRd I (Po0 r_ob) (Posz hsz r_ob) (rP_15 r_ob).1
      refine gg_6_15 (n := 170) (z := v39) X (Po0 r_ob) (Posz hsz r_ob) (lay2_P r_ob) kw_1_224 dX0_isSo_167 rfl hv39 ?_
      refine g_icmp_ne (n := 173) (tgt := 177) X dX0_isSo_170 (by decide) (by omega) (by omega) rfl (fun c40 => ?_) (fun c40 => ?_)
      · refine g_iconst (n := 178) X dX0_isSo_177 rfl ?_
        exact hq _ _ _ _ dX0_isSo_178 (by omega) ⟨rfl, by omega⟩
      · refine g_iconst (n := 174) X dX0_isSo_173 rfl ?_
        refine g_goto (tgt := 178) X dX0_isSo_174 (by decide) ?_
        exact hq _ _ _ _ dX0_isSo_178 (by omega) ⟨rfl, by omega⟩
  by_cases c41 : v1 = 102
  · refine g_tableIn (tgt := 127) X 5 dX0_isSo_6 (by omega) (by omega) (by omega) (by omega) rfl (by decide) ?_
    refine g_aload_n (n := 128) X 0 dX0_isSo_127 rfl rfl rfl ?_
    refine g_iload_n (n := 129) X 1 dX0_isSo_128 rfl rfl rfl ?_
    refine g_iload (n := 131) X 4 dX0_isSo_129 rfl rfl ?_
    refine g_callVi (n := 134) (As := [gJ a, gJ d]) (rest := []) (cs1 := 0) (ss1 := 0) X (s_X0_compares o r_o a (by omega) d (by omega) hsz I C ) okX0_compares kw_4_117 ⟨kw_4_119, kw_0_19⟩ ⟨rfl, rfl⟩ ⟨Nat.le_of_ble_eq_true rfl, Nat.le_of_ble_eq_true rfl⟩ rfl (Ao0 r_o) (Aosz hsz r_o) (lay2_A r_o) rfl rfl (Nat.le_of_ble_eq_true rfl) ⟨Nat.le_of_ble_eq_true rfl, Nat.le_of_ble_eq_true rfl⟩ rfl rfl dX0_isSo_131 rfl (fun v42 M43 P44 => ?_)
    obtain ⟨rfl, rv42⟩ := P44
    exact hq _ _ _ _ dX0_isSo_134 (by omega) ⟨rfl, by omega⟩
  by_cases c45 : v1 = 103
  · refine g_tableIn (tgt := 107) X 6 dX0_isSo_6 (by omega) (by omega) (by omega) (by omega) rfl (by decide) ?_
    refine g_aload_n (n := 108) X 0 dX0_isSo_107 rfl rfl rfl ?_
    refine g_iload_n (n := 109) X 1 dX0_isSo_108 rfl rfl rfl ?_
    refine g_aload_n (n := 110) X 2 dX0_isSo_109 rfl rfl rfl ?_
    obtain ⟨v46, hv46, rv46⟩ := gRd I (Po0 r_ob) (Posz hsz r_ob) (rP_4 r_ob).1
    refine gg_6_4 (n := 113) (z := v46) X (Po0 r_ob) (Posz hsz r_ob) (lay2_P r_ob) kw_1_189 dX0_isSo_110 rfl hv46 ?_
    refine g_callVi (n := 116) (As := [gJ a, gJ v46]) (rest := []) (cs1 := 0) (ss1 := 0) X (s_X0_compares o r_o a (by omega) v46 (by omega) hsz I C ) okX0_compares kw_4_117 ⟨kw_4_119, kw_0_19⟩ ⟨rfl, rfl⟩ ⟨Nat.le_of_ble_eq_true rfl, Nat.le_of_ble_eq_true rfl⟩ rfl (Ao0 r_o) (Aosz hsz r_o) (lay2_A r_o) rfl rfl (Nat.le_of_ble_eq_true rfl) ⟨Nat.le_of_ble_eq_true rfl, Nat.le_of_ble_eq_true rfl⟩ rfl rfl dX0_isSo_113 rfl (fun v47 M48 P49 => ?_)
    obtain ⟨rfl, rv47⟩ := P49
    exact hq _ _ _ _ dX0_isSo_116 (by omega) ⟨rfl, by omega⟩
  by_cases c50 : v1 = 104
  · refine g_tableIn (tgt := 117) X 7 dX0_isSo_6 (by omega) (by omega) (by omega) (by omega) rfl (by decide) ?_
    refine g_aload_n (n := 118) X 0 dX0_isSo_117 rfl rfl rfl ?_
    refine g_iload_n (n := 119) X 1 dX0_isSo_118 rfl rfl rfl ?_
    refine g_aload_n (n := 120) X 2 dX0_isSo_119 rfl rfl rfl ?_
    obtain ⟨v51, hv51, rv51⟩ := gRd I (Po0 r_ob) (Posz hsz r_ob) (rP_6 r_ob).1
    refine gg_6_6 (n := 123) (z := v51) X (Po0 r_ob) (Posz hsz r_ob) (lay2_P r_ob) kw_1_198 dX0_isSo_120 rfl hv51 ?_
    refine g_callVi (n := 126) (As := [gJ a, gJ v51]) (rest := []) (cs1 := 0) (ss1 := 0) X (s_X0_compares o r_o a (by omega) v51 (by omega) hsz I C ) okX0_compares kw_4_117 ⟨kw_4_119, kw_0_19⟩ ⟨rfl, rfl⟩ ⟨Nat.le_of_ble_eq_true rfl, Nat.le_of_ble_eq_true rfl⟩ rfl (Ao0 r_o) (Aosz hsz r_o) (lay2_A r_o) rfl rfl (Nat.le_of_ble_eq_true rfl) ⟨Nat.le_of_ble_eq_true rfl, Nat.le_of_ble_eq_true rfl⟩ rfl rfl dX0_isSo_123 rfl (fun v52 M53 P54 => ?_)
    obtain ⟨rfl, rv52⟩ := P54
    exact hq _ _ _ _ dX0_isSo_126 (by omega) ⟨rfl, by omega⟩
  by_cases c55 : v1 = 105
  · refine g_tableIn (tgt := 155) X 8 dX0_isSo_6 (by omega) (by omega) (by omega) (by omega) rfl (by decide) ?_
    refine g_aload_n (n := 156) X 2 dX0_isSo_155 rfl rfl rfl ?_
    refine g_callVi (n := 159) (As := []) (rest := []) (cs1 := 0) (ss1 := 0) X (s_X6_isAtParish ob r_ob hsz I C ) okX6_isAtParish kw_4_121 ⟨kw_4_122, kw_4_123⟩ ⟨rfl, rfl⟩ ⟨Nat.le_of_ble_eq_true rfl, Nat.le_of_ble_eq_true rfl⟩ rfl (Po0 r_ob) (Posz hsz r_ob) (lay2_P r_ob) rfl rfl (Nat.le_of_ble_eq_true rfl) ⟨Nat.le_of_ble_eq_true rfl, Nat.le_of_ble_eq_true rfl⟩ rfl rfl dX0_isSo_156 rfl (fun v56 M57 P58 => ?_)
    obtain ⟨rfl, rv56, xv56⟩ := P58
    obtain ⟨v59, hv59, rv59⟩ := gRd I (Po0 r_ob) (Posz hsz r_ob) (rP_5 r_ob).1
    refine g_if_eq (n := 162) (tgt := 177) X dX0_isSo_159 (by decide) (by omega) rfl (fun c60 => ?_) (fun c60 => ?_)
    · refine g_iconst (n := 178) X dX0_isSo_177 rfl ?_
      exact hq _ _ _ _ dX0_isSo_178 (by omega) ⟨rfl, by omega⟩
    · refine g_aload_n (n := 163) X 2 dX0_isSo_162 rfl rfl rfl ?_
      refine gg_6_5 (n := 166) (z := v59) X (Po0 r_ob) (Posz hsz r_ob) (lay2_P r_ob) kw_1_194 dX0_isSo_163 rfl hv59 ?_
      refine g_aload_n (n := 167) X 2 dX0_isSo_166 rfl rfl rfl ?_
      obtain ⟨v61, hv61, rv61⟩ := gRd I (Po0 r_ob) (Posz hsz r_ob) (rP_15 r_ob).1
      refine gg_6_15 (n := 170) (z := v61) X (Po0 r_ob) (Posz hsz r_ob) (lay2_P r_ob) kw_1_224 dX0_isSo_167 rfl hv61 ?_
      refine g_icmp_ne (n := 173) (tgt := 177) X dX0_isSo_170 (by decide) (by omega) (by omega) rfl (fun c62 => ?_) (fun c62 => ?_)
      · refine g_iconst (n := 178) X dX0_isSo_177 rfl ?_
        exact hq _ _ _ _ dX0_isSo_178 (by omega) ⟨rfl, by omega⟩
      · refine g_iconst (n := 174) X dX0_isSo_173 rfl ?_
        refine g_goto (tgt := 178) X dX0_isSo_174 (by decide) ?_
        exact hq _ _ _ _ dX0_isSo_178 (by omega) ⟨rfl, by omega⟩
  by_cases c63 : v1 = 106
  · refine g_tableIn (tgt := 155) X 9 dX0_isSo_6 (by omega) (by omega) (by omega) (by omega) rfl (by decide) ?_
    refine g_aload_n (n := 156) X 2 dX0_isSo_155 rfl rfl rfl ?_
    refine g_callVi (n := 159) (As := []) (rest := []) (cs1 := 0) (ss1 := 0) X (s_X6_isAtParish ob r_ob hsz I C ) okX6_isAtParish kw_4_121 ⟨kw_4_122, kw_4_123⟩ ⟨rfl, rfl⟩ ⟨Nat.le_of_ble_eq_true rfl, Nat.le_of_ble_eq_true rfl⟩ rfl (Po0 r_ob) (Posz hsz r_ob) (lay2_P r_ob) rfl rfl (Nat.le_of_ble_eq_true rfl) ⟨Nat.le_of_ble_eq_true rfl, Nat.le_of_ble_eq_true rfl⟩ rfl rfl dX0_isSo_156 rfl (fun v64 M65 P66 => ?_)
    obtain ⟨rfl, rv64, xv64⟩ := P66
    obtain ⟨v67, hv67, rv67⟩ := gRd I (Po0 r_ob) (Posz hsz r_ob) (rP_5 r_ob).1
    refine g_if_eq (n := 162) (tgt := 177) X dX0_isSo_159 (by decide) (by omega) rfl (fun c68 => ?_) (fun c68 => ?_)
    · refine g_iconst (n := 178) X dX0_isSo_177 rfl ?_
      exact hq _ _ _ _ dX0_isSo_178 (by omega) ⟨rfl, by omega⟩
    · refine g_aload_n (n := 163) X 2 dX0_isSo_162 rfl rfl rfl ?_
      refine gg_6_5 (n := 166) (z := v67) X (Po0 r_ob) (Posz hsz r_ob) (lay2_P r_ob) kw_1_194 dX0_isSo_163 rfl hv67 ?_
      refine g_aload_n (n := 167) X 2 dX0_isSo_166 rfl rfl rfl ?_
      obtain ⟨v69, hv69, rv69⟩ := gRd I (Po0 r_ob) (Posz hsz r_ob) (rP_15 r_ob).1
      refine gg_6_15 (n := 170) (z := v69) X (Po0 r_ob) (Posz hsz r_ob) (lay2_P r_ob) kw_1_224 dX0_isSo_167 rfl hv69 ?_
      refine g_icmp_ne (n := 173) (tgt := 177) X dX0_isSo_170 (by decide) (by omega) (by omega) rfl (fun c70 => ?_) (fun c70 => ?_)
      · refine g_iconst (n := 178) X dX0_isSo_177 rfl ?_
        exact hq _ _ _ _ dX0_isSo_178 (by omega) ⟨rfl, by omega⟩
      · refine g_iconst (n := 174) X dX0_isSo_173 rfl ?_
        refine g_goto (tgt := 178) X dX0_isSo_174 (by decide) ?_
        exact hq _ _ _ _ dX0_isSo_178 (by omega) ⟨rfl, by omega⟩
  by_cases c71 : v1 = 107
  · refine g_tableIn (tgt := 155) X 10 dX0_isSo_6 (by omega) (by omega) (by omega) (by omega) rfl (by decide) ?_
    refine g_aload_n (n := 156) X 2 dX0_isSo_155 rfl rfl rfl ?_
    refine g_callVi (n := 159) (As := []) (rest := []) (cs1 := 0) (ss1 := 0) X (s_X6_isAtParish ob r_ob hsz I C ) okX6_isAtParish kw_4_121 ⟨kw_4_122, kw_4_123⟩ ⟨rfl, rfl⟩ ⟨Nat.le_of_ble_eq_true rfl, Nat.le_of_ble_eq_true rfl⟩ rfl (Po0 r_ob) (Posz hsz r_ob) (lay2_P r_ob) rfl rfl (Nat.le_of_ble_eq_true rfl) ⟨Nat.le_of_ble_eq_true rfl, Nat.le_of_ble_eq_true rfl⟩ rfl rfl dX0_isSo_156 rfl (fun v72 M73 P74 => ?_)
    obtain ⟨rfl, rv72, xv72⟩ := P74
    obtain ⟨v75, hv75, rv75⟩ := gRd I (Po0 r_ob) (Posz hsz r_ob) (rP_5 r_ob).1
    refine g_if_eq (n := 162) (tgt := 177) X dX0_isSo_159 (by decide) (by omega) rfl (fun c76 => ?_) (fun c76 => ?_)
    · refine g_iconst (n := 178) X dX0_isSo_177 rfl ?_
      exact hq _ _ _ _ dX0_isSo_178 (by omega) ⟨rfl, by omega⟩
    · refine g_aload_n (n := 163) X 2 dX0_isSo_162 rfl rfl rfl ?_
      refine gg_6_5 (n := 166) (z := v75) X (Po0 r_ob) (Posz hsz r_ob) (lay2_P r_ob) kw_1_194 dX0_isSo_163 rfl hv75 ?_
      refine g_aload_n (n := 167) X 2 dX0_isSo_166 rfl rfl rfl ?_
      obtain ⟨v77, hv77, rv77⟩ := gRd I (Po0 r_ob) (Posz hsz r_ob) (rP_15 r_ob).1
      refine gg_6_15 (n := 170) (z := v77) X (Po0 r_ob) (Posz hsz r_ob) (lay2_P r_ob) kw_1_224 dX0_isSo_167 rfl hv77 ?_
      refine g_icmp_ne (n := 173) (tgt := 177) X dX0_isSo_170 (by decide) (by omega) (by omega) rfl (fun c78 => ?_) (fun c78 => ?_)
      · refine g_iconst (n := 178) X dX0_isSo_177 rfl ?_
        exact hq _ _ _ _ dX0_isSo_178 (by omega) ⟨rfl, by omega⟩
      · refine g_iconst (n := 174) X dX0_isSo_173 rfl ?_
        refine g_goto (tgt := 178) X dX0_isSo_174 (by decide) ?_
        exact hq _ _ _ _ dX0_isSo_178 (by omega) ⟨rfl, by omega⟩
  by_cases c79 : v1 = 108
  · refine g_tableIn (tgt := 155) X 11 dX0_isSo_6 (by omega) (by omega) (by omega) (by omega) rfl (by decide) ?_
    refine g_aload_n (n := 156) X 2 dX0_isSo_155 rfl rfl rfl ?_
    refine g_callVi (n := 159) (As := []) (rest := []) (cs1 := 0) (ss1 := 0) X (s_X6_isAtParish ob r_ob hsz I C ) okX6_isAtParish kw_4_121 ⟨kw_4_122, kw_4_123⟩ ⟨rfl, rfl⟩ ⟨Nat.le_of_ble_eq_true rfl, Nat.le_of_ble_eq_true rfl⟩ rfl (Po0 r_ob) (Posz hsz r_ob) (lay2_P r_ob) rfl rfl (Nat.le_of_ble_eq_true rfl) ⟨Nat.le_of_ble_eq_true rfl, Nat.le_of_ble_eq_true rfl⟩ rfl rfl dX0_isSo_156 rfl (fun v80 M81 P82 => ?_)
    obtain ⟨rfl, rv80, xv80⟩ := P82
    obtain ⟨v83, hv83, rv83⟩ := gRd I (Po0 r_ob) (Posz hsz r_ob) (rP_5 r_ob).1
    refine g_if_eq (n := 162) (tgt := 177) X dX0_isSo_159 (by decide) (by omega) rfl (fun c84 => ?_) (fun c84 => ?_)
    · refine g_iconst (n := 178) X dX0_isSo_177 rfl ?_
      exact hq _ _ _ _ dX0_isSo_178 (by omega) ⟨rfl, by omega⟩
    · refine g_aload_n (n := 163) X 2 dX0_isSo_162 rfl rfl rfl ?_
      refine gg_6_5 (n := 166) (z := v83) X (Po0 r_ob) (Posz hsz r_ob) (lay2_P r_ob) kw_1_194 dX0_isSo_163 rfl hv83 ?_
      refine g_aload_n (n := 167) X 2 dX0_isSo_166 rfl rfl rfl ?_
      obtain ⟨v85, hv85, rv85⟩ := gRd I (Po0 r_ob) (Posz hsz r_ob) (rP_15 r_ob).1
      refine gg_6_15 (n := 170) (z := v85) X (Po0 r_ob) (Posz hsz r_ob) (lay2_P r_ob) kw_1_224 dX0_isSo_167 rfl hv85 ?_
      refine g_icmp_ne (n := 173) (tgt := 177) X dX0_isSo_170 (by decide) (by omega) (by omega) rfl (fun c86 => ?_) (fun c86 => ?_)
      · refine g_iconst (n := 178) X dX0_isSo_177 rfl ?_
        exact hq _ _ _ _ dX0_isSo_178 (by omega) ⟨rfl, by omega⟩
      · refine g_iconst (n := 174) X dX0_isSo_173 rfl ?_
        refine g_goto (tgt := 178) X dX0_isSo_174 (by decide) ?_
        exact hq _ _ _ _ dX0_isSo_178 (by omega) ⟨rfl, by omega⟩
  by_cases c87 : v1 = 109
  · refine g_tableIn (tgt := 155) X 12 dX0_isSo_6 (by omega) (by omega) (by omega) (by omega) rfl (by decide) ?_
    refine g_aload_n (n := 156) X 2 dX0_isSo_155 rfl rfl rfl ?_
    refine g_callVi (n := 159) (As := []) (rest := []) (cs1 := 0) (ss1 := 0) X (s_X6_isAtParish ob r_ob hsz I C ) okX6_isAtParish kw_4_121 ⟨kw_4_122, kw_4_123⟩ ⟨rfl, rfl⟩ ⟨Nat.le_of_ble_eq_true rfl, Nat.le_of_ble_eq_true rfl⟩ rfl (Po0 r_ob) (Posz hsz r_ob) (lay2_P r_ob) rfl rfl (Nat.le_of_ble_eq_true rfl) ⟨Nat.le_of_ble_eq_true rfl, Nat.le_of_ble_eq_true rfl⟩ rfl rfl dX0_isSo_156 rfl (fun v88 M89 P90 => ?_)
    obtain ⟨rfl, rv88, xv88⟩ := P90
    obtain ⟨v91, hv91, rv91⟩ := gRd I (Po0 r_ob) (Posz hsz r_ob) (rP_5 r_ob).1
    refine g_if_eq (n := 162) (tgt := 177) X dX0_isSo_159 (by decide) (by omega) rfl (fun c92 => ?_) (fun c92 => ?_)
    · refine g_iconst (n := 178) X dX0_isSo_177 rfl ?_
      exact hq _ _ _ _ dX0_isSo_178 (by omega) ⟨rfl, by omega⟩
    · refine g_aload_n (n := 163) X 2 dX0_isSo_162 rfl rfl rfl ?_
      refine gg_6_5 (n := 166) (z := v91) X (Po0 r_ob) (Posz hsz r_ob) (lay2_P r_ob) kw_1_194 dX0_isSo_163 rfl hv91 ?_
      refine g_aload_n (n := 167) X 2 dX0_isSo_166 rfl rfl rfl ?_
      obtain ⟨v93, hv93, rv93⟩ := gRd I (Po0 r_ob) (Posz hsz r_ob) (rP_15 r_ob).1
      refine gg_6_15 (n := 170) (z := v93) X (Po0 r_ob) (Posz hsz r_ob) (lay2_P r_ob) kw_1_224 dX0_isSo_167 rfl hv93 ?_
      refine g_icmp_ne (n := 173) (tgt := 177) X dX0_isSo_170 (by decide) (by omega) (by omega) rfl (fun c94 => ?_) (fun c94 => ?_)
      · refine g_iconst (n := 178) X dX0_isSo_177 rfl ?_
        exact hq _ _ _ _ dX0_isSo_178 (by omega) ⟨rfl, by omega⟩
      · refine g_iconst (n := 174) X dX0_isSo_173 rfl ?_
        refine g_goto (tgt := 178) X dX0_isSo_174 (by decide) ?_
        exact hq _ _ _ _ dX0_isSo_178 (by omega) ⟨rfl, by omega⟩
  by_cases c95 : v1 = 110
  · refine g_tableIn (tgt := 155) X 13 dX0_isSo_6 (by omega) (by omega) (by omega) (by omega) rfl (by decide) ?_
    refine g_aload_n (n := 156) X 2 dX0_isSo_155 rfl rfl rfl ?_
    refine g_callVi (n := 159) (As := []) (rest := []) (cs1 := 0) (ss1 := 0) X (s_X6_isAtParish ob r_ob hsz I C ) okX6_isAtParish kw_4_121 ⟨kw_4_122, kw_4_123⟩ ⟨rfl, rfl⟩ ⟨Nat.le_of_ble_eq_true rfl, Nat.le_of_ble_eq_true rfl⟩ rfl (Po0 r_ob) (Posz hsz r_ob) (lay2_P r_ob) rfl rfl (Nat.le_of_ble_eq_true rfl) ⟨Nat.le_of_ble_eq_true rfl, Nat.le_of_ble_eq_true rfl⟩ rfl rfl dX0_isSo_156 rfl (fun v96 M97 P98 => ?_)
    obtain ⟨rfl, rv96, xv96⟩ := P98
    obtain ⟨v99, hv99, rv99⟩ := gRd I (Po0 r_ob) (Posz hsz r_ob) (rP_5 r_ob).1
    refine g_if_eq (n := 162) (tgt := 177) X dX0_isSo_159 (by decide) (by omega) rfl (fun c100 => ?_) (fun c100 => ?_)
    · refine g_iconst (n := 178) X dX0_isSo_177 rfl ?_
      exact hq _ _ _ _ dX0_isSo_178 (by omega) ⟨rfl, by omega⟩
    · refine g_aload_n (n := 163) X 2 dX0_isSo_162 rfl rfl rfl ?_
      refine gg_6_5 (n := 166) (z := v99) X (Po0 r_ob) (Posz hsz r_ob) (lay2_P r_ob) kw_1_194 dX0_isSo_163 rfl hv99 ?_
      refine g_aload_n (n := 167) X 2 dX0_isSo_166 rfl rfl rfl ?_
      obtain ⟨v101, hv101, rv101⟩ := gRd I (Po0 r_ob) (Posz hsz r_ob) (rP_15 r_ob).1
      refine gg_6_15 (n := 170) (z := v101) X (Po0 r_ob) (Posz hsz r_ob) (lay2_P r_ob) kw_1_224 dX0_isSo_167 rfl hv101 ?_
      refine g_icmp_ne (n := 173) (tgt := 177) X dX0_isSo_170 (by decide) (by omega) (by omega) rfl (fun c102 => ?_) (fun c102 => ?_)
      · refine g_iconst (n := 178) X dX0_isSo_177 rfl ?_
        exact hq _ _ _ _ dX0_isSo_178 (by omega) ⟨rfl, by omega⟩
      · refine g_iconst (n := 174) X dX0_isSo_173 rfl ?_
        refine g_goto (tgt := 178) X dX0_isSo_174 (by decide) ?_
        exact hq _ _ _ _ dX0_isSo_178 (by omega) ⟨rfl, by omega⟩
  by_cases c103 : v1 = 111
  · refine g_tableIn (tgt := 155) X 14 dX0_isSo_6 (by omega) (by omega) (by omega) (by omega) rfl (by decide) ?_
    refine g_aload_n (n := 156) X 2 dX0_isSo_155 rfl rfl rfl ?_
    refine g_callVi (n := 159) (As := []) (rest := []) (cs1 := 0) (ss1 := 0) X (s_X6_isAtParish ob r_ob hsz I C ) okX6_isAtParish kw_4_121 ⟨kw_4_122, kw_4_123⟩ ⟨rfl, rfl⟩ ⟨Nat.le_of_ble_eq_true rfl, Nat.le_of_ble_eq_true rfl⟩ rfl (Po0 r_ob) (Posz hsz r_ob) (lay2_P r_ob) rfl rfl (Nat.le_of_ble_eq_true rfl) ⟨Nat.le_of_ble_eq_true rfl, Nat.le_of_ble_eq_true rfl⟩ rfl rfl dX0_isSo_156 rfl (fun v104 M105 P106 => ?_)
    obtain ⟨rfl, rv104, xv104⟩ := P106
    obtain ⟨v107, hv107, rv107⟩ := gRd I (Po0 r_ob) (Posz hsz r_ob) (rP_5 r_ob).1
    refine g_if_eq (n := 162) (tgt := 177) X dX0_isSo_159 (by decide) (by omega) rfl (fun c108 => ?_) (fun c108 => ?_)
    · refine g_iconst (n := 178) X dX0_isSo_177 rfl ?_
      exact hq _ _ _ _ dX0_isSo_178 (by omega) ⟨rfl, by omega⟩
    · refine g_aload_n (n := 163) X 2 dX0_isSo_162 rfl rfl rfl ?_
      refine gg_6_5 (n := 166) (z := v107) X (Po0 r_ob) (Posz hsz r_ob) (lay2_P r_ob) kw_1_194 dX0_isSo_163 rfl hv107 ?_
      refine g_aload_n (n := 167) X 2 dX0_isSo_166 rfl rfl rfl ?_
      obtain ⟨v109, hv109, rv109⟩ := gRd I (Po0 r_ob) (Posz hsz r_ob) (rP_15 r_ob).1
      refine gg_6_15 (n := 170) (z := v109) X (Po0 r_ob) (Posz hsz r_ob) (lay2_P r_ob) kw_1_224 dX0_isSo_167 rfl hv109 ?_
      refine g_icmp_ne (n := 173) (tgt := 177) X dX0_isSo_170 (by decide) (by omega) (by omega) rfl (fun c110 => ?_) (fun c110 => ?_)
      · refine g_iconst (n := 178) X dX0_isSo_177 rfl ?_
        exact hq _ _ _ _ dX0_isSo_178 (by omega) ⟨rfl, by omega⟩
      · refine g_iconst (n := 174) X dX0_isSo_173 rfl ?_
        refine g_goto (tgt := 178) X dX0_isSo_174 (by decide) ?_
        exact hq _ _ _ _ dX0_isSo_178 (by omega) ⟨rfl, by omega⟩
  by_cases c111 : v1 = 112
  · refine g_tableIn (tgt := 145) X 15 dX0_isSo_6 (by omega) (by omega) (by omega) (by omega) rfl (by decide) ?_
    refine g_aload_n (n := 146) X 0 dX0_isSo_145 rfl rfl rfl ?_
    refine g_iload_n (n := 147) X 1 dX0_isSo_146 rfl rfl rfl ?_
    refine g_aload_n (n := 148) X 2 dX0_isSo_147 rfl rfl rfl ?_
    obtain ⟨v112, hv112, rv112⟩ := gRd I (Po0 r_ob) (Posz hsz r_ob) (rP_5 r_ob).1
    refine gg_6_5 (n := 151) (z := v112) X (Po0 r_ob) (Posz hsz r_ob) (lay2_P r_ob) kw_1_194 dX0_isSo_148 rfl hv112 ?_
    refine g_callVi (n := 154) (As := [gJ a, gJ v112]) (rest := []) (cs1 := 0) (ss1 := 0) X (s_X0_compares o r_o a (by omega) v112 (by omega) hsz I C ) okX0_compares kw_4_117 ⟨kw_4_119, kw_0_19⟩ ⟨rfl, rfl⟩ ⟨Nat.le_of_ble_eq_true rfl, Nat.le_of_ble_eq_true rfl⟩ rfl (Ao0 r_o) (Aosz hsz r_o) (lay2_A r_o) rfl rfl (Nat.le_of_ble_eq_true rfl) ⟨Nat.le_of_ble_eq_true rfl, Nat.le_of_ble_eq_true rfl⟩ rfl rfl dX0_isSo_151 rfl (fun v113 M114 P115 => ?_)
    obtain ⟨rfl, rv113⟩ := P115
    exact hq _ _ _ _ dX0_isSo_154 (by omega) ⟨rfl, by omega⟩
  by_cases c116 : v1 = 113
  · refine g_tableIn (tgt := 155) X 16 dX0_isSo_6 (by omega) (by omega) (by omega) (by omega) rfl (by decide) ?_
    refine g_aload_n (n := 156) X 2 dX0_isSo_155 rfl rfl rfl ?_
    refine g_callVi (n := 159) (As := []) (rest := []) (cs1 := 0) (ss1 := 0) X (s_X6_isAtParish ob r_ob hsz I C ) okX6_isAtParish kw_4_121 ⟨kw_4_122, kw_4_123⟩ ⟨rfl, rfl⟩ ⟨Nat.le_of_ble_eq_true rfl, Nat.le_of_ble_eq_true rfl⟩ rfl (Po0 r_ob) (Posz hsz r_ob) (lay2_P r_ob) rfl rfl (Nat.le_of_ble_eq_true rfl) ⟨Nat.le_of_ble_eq_true rfl, Nat.le_of_ble_eq_true rfl⟩ rfl rfl dX0_isSo_156 rfl (fun v117 M118 P119 => ?_)
    obtain ⟨rfl, rv117, xv117⟩ := P119
    obtain ⟨v120, hv120, rv120⟩ := gRd I (Po0 r_ob) (Posz hsz r_ob) (rP_5 r_ob).1
    refine g_if_eq (n := 162) (tgt := 177) X dX0_isSo_159 (by decide) (by omega) rfl (fun c121 => ?_) (fun c121 => ?_)
    · refine g_iconst (n := 178) X dX0_isSo_177 rfl ?_
      exact hq _ _ _ _ dX0_isSo_178 (by omega) ⟨rfl, by omega⟩
    · refine g_aload_n (n := 163) X 2 dX0_isSo_162 rfl rfl rfl ?_
      refine gg_6_5 (n := 166) (z := v120) X (Po0 r_ob) (Posz hsz r_ob) (lay2_P r_ob) kw_1_194 dX0_isSo_163 rfl hv120 ?_
      refine g_aload_n (n := 167) X 2 dX0_isSo_166 rfl rfl rfl ?_
      obtain ⟨v122, hv122, rv122⟩ := gRd I (Po0 r_ob) (Posz hsz r_ob) (rP_15 r_ob).1
      refine gg_6_15 (n := 170) (z := v122) X (Po0 r_ob) (Posz hsz r_ob) (lay2_P r_ob) kw_1_224 dX0_isSo_167 rfl hv122 ?_
      refine g_icmp_ne (n := 173) (tgt := 177) X dX0_isSo_170 (by decide) (by omega) (by omega) rfl (fun c123 => ?_) (fun c123 => ?_)
      · refine g_iconst (n := 178) X dX0_isSo_177 rfl ?_
        exact hq _ _ _ _ dX0_isSo_178 (by omega) ⟨rfl, by omega⟩
      · refine g_iconst (n := 174) X dX0_isSo_173 rfl ?_
        refine g_goto (tgt := 178) X dX0_isSo_174 (by decide) ?_
        exact hq _ _ _ _ dX0_isSo_178 (by omega) ⟨rfl, by omega⟩
  by_cases c124 : v1 = 114
  · refine g_tableIn (tgt := 155) X 17 dX0_isSo_6 (by omega) (by omega) (by omega) (by omega) rfl (by decide) ?_
    refine g_aload_n (n := 156) X 2 dX0_isSo_155 rfl rfl rfl ?_
    refine g_callVi (n := 159) (As := []) (rest := []) (cs1 := 0) (ss1 := 0) X (s_X6_isAtParish ob r_ob hsz I C ) okX6_isAtParish kw_4_121 ⟨kw_4_122, kw_4_123⟩ ⟨rfl, rfl⟩ ⟨Nat.le_of_ble_eq_true rfl, Nat.le_of_ble_eq_true rfl⟩ rfl (Po0 r_ob) (Posz hsz r_ob) (lay2_P r_ob) rfl rfl (Nat.le_of_ble_eq_true rfl) ⟨Nat.le_of_ble_eq_true rfl, Nat.le_of_ble_eq_true rfl⟩ rfl rfl dX0_isSo_156 rfl (fun v125 M126 P127 => ?_)
    obtain ⟨rfl, rv125, xv125⟩ := P127
    obtain ⟨v128, hv128, rv128⟩ := gRd I (Po0 r_ob) (Posz hsz r_ob) (rP_5 r_ob).1
    refine g_if_eq (n := 162) (tgt := 177) X dX0_isSo_159 (by decide) (by omega) rfl (fun c129 => ?_) (fun c129 => ?_)
    · refine g_iconst (n := 178) X dX0_isSo_177 rfl ?_
      exact hq _ _ _ _ dX0_isSo_178 (by omega) ⟨rfl, by omega⟩
    · refine g_aload_n (n := 163) X 2 dX0_isSo_162 rfl rfl rfl ?_
      refine gg_6_5 (n := 166) (z := v128) X (Po0 r_ob) (Posz hsz r_ob) (lay2_P r_ob) kw_1_194 dX0_isSo_163 rfl hv128 ?_
      refine g_aload_n (n := 167) X 2 dX0_isSo_166 rfl rfl rfl ?_
      obtain ⟨v130, hv130, rv130⟩ := gRd I (Po0 r_ob) (Posz hsz r_ob) (rP_15 r_ob).1
      refine gg_6_15 (n := 170) (z := v130) X (Po0 r_ob) (Posz hsz r_ob) (lay2_P r_ob) kw_1_224 dX0_isSo_167 rfl hv130 ?_
      refine g_icmp_ne (n := 173) (tgt := 177) X dX0_isSo_170 (by decide) (by omega) (by omega) rfl (fun c131 => ?_) (fun c131 => ?_)
      · refine g_iconst (n := 178) X dX0_isSo_177 rfl ?_
        exact hq _ _ _ _ dX0_isSo_178 (by omega) ⟨rfl, by omega⟩
      · refine g_iconst (n := 174) X dX0_isSo_173 rfl ?_
        refine g_goto (tgt := 178) X dX0_isSo_174 (by decide) ?_
        exact hq _ _ _ _ dX0_isSo_178 (by omega) ⟨rfl, by omega⟩
  by_cases c132 : v1 = 115
  · refine g_tableIn (tgt := 135) X 18 dX0_isSo_6 (by omega) (by omega) (by omega) (by omega) rfl (by decide) ?_
    refine g_aload_n (n := 136) X 0 dX0_isSo_135 rfl rfl rfl ?_
    refine g_iload_n (n := 137) X 1 dX0_isSo_136 rfl rfl rfl ?_
    refine g_aload_n (n := 138) X 2 dX0_isSo_137 rfl rfl rfl ?_
    obtain ⟨v133, hv133, rv133⟩ := gRd I (Po0 r_ob) (Posz hsz r_ob) (rP_0 r_ob).1
    refine gg_6_0 (n := 141) (z := v133) X (Po0 r_ob) (Posz hsz r_ob) (lay2_P r_ob) kw_1_177 dX0_isSo_138 rfl hv133 ?_
    refine g_callVi (n := 144) (As := [gJ a, gJ v133]) (rest := []) (cs1 := 0) (ss1 := 0) X (s_X0_compares o r_o a (by omega) v133 (by omega) hsz I C ) okX0_compares kw_4_117 ⟨kw_4_119, kw_0_19⟩ ⟨rfl, rfl⟩ ⟨Nat.le_of_ble_eq_true rfl, Nat.le_of_ble_eq_true rfl⟩ rfl (Ao0 r_o) (Aosz hsz r_o) (lay2_A r_o) rfl rfl (Nat.le_of_ble_eq_true rfl) ⟨Nat.le_of_ble_eq_true rfl, Nat.le_of_ble_eq_true rfl⟩ rfl rfl dX0_isSo_141 rfl (fun v134 M135 P136 => ?_)
    obtain ⟨rfl, rv134⟩ := P136
    exact hq _ _ _ _ dX0_isSo_144 (by omega) ⟨rfl, by omega⟩
  refine g_tableOut (tgt := 155) X dX0_isSo_6 (by omega) (by omega) (by decide) ?_
  refine g_aload_n (n := 156) X 2 dX0_isSo_155 rfl rfl rfl ?_
  refine g_callVi (n := 159) (As := []) (rest := []) (cs1 := 0) (ss1 := 0) X (s_X6_isAtParish ob r_ob hsz I C ) okX6_isAtParish kw_4_121 ⟨kw_4_122, kw_4_123⟩ ⟨rfl, rfl⟩ ⟨Nat.le_of_ble_eq_true rfl, Nat.le_of_ble_eq_true rfl⟩ rfl (Po0 r_ob) (Posz hsz r_ob) (lay2_P r_ob) rfl rfl (Nat.le_of_ble_eq_true rfl) ⟨Nat.le_of_ble_eq_true rfl, Nat.le_of_ble_eq_true rfl⟩ rfl rfl dX0_isSo_156 rfl (fun v137 M138 P139 => ?_)
  obtain ⟨rfl, rv137, xv137⟩ := P139
  obtain ⟨v140, hv140, rv140⟩ := gRd I (Po0 r_ob) (Posz hsz r_ob) (rP_5 r_ob).1
  refine g_if_eq (n := 162) (tgt := 177) X dX0_isSo_159 (by decide) (by omega) rfl (fun c141 => ?_) (fun c141 => ?_)
  · refine g_iconst (n := 178) X dX0_isSo_177 rfl ?_
    exact hq _ _ _ _ dX0_isSo_178 (by omega) ⟨rfl, by omega⟩
  · refine g_aload_n (n := 163) X 2 dX0_isSo_162 rfl rfl rfl ?_
    refine gg_6_5 (n := 166) (z := v140) X (Po0 r_ob) (Posz hsz r_ob) (lay2_P r_ob) kw_1_194 dX0_isSo_163 rfl hv140 ?_
    refine g_aload_n (n := 167) X 2 dX0_isSo_166 rfl rfl rfl ?_
    obtain ⟨v142, hv142, rv142⟩ := gRd I (Po0 r_ob) (Posz hsz r_ob) (rP_15 r_ob).1
    refine gg_6_15 (n := 170) (z := v142) X (Po0 r_ob) (Posz hsz r_ob) (lay2_P r_ob) kw_1_224 dX0_isSo_167 rfl hv142 ?_
    refine g_icmp_ne (n := 173) (tgt := 177) X dX0_isSo_170 (by decide) (by omega) (by omega) rfl (fun c143 => ?_) (fun c143 => ?_)
    · refine g_iconst (n := 178) X dX0_isSo_177 rfl ?_
      exact hq _ _ _ _ dX0_isSo_178 (by omega) ⟨rfl, by omega⟩
    · refine g_iconst (n := 174) X dX0_isSo_173 rfl ?_
      refine g_goto (tgt := 178) X dX0_isSo_174 (by decide) ?_
      exact hq _ _ _ _ dX0_isSo_178 (by omega) ⟨rfl, by omega⟩
theorem dX0_holds_0 : decode cX0_holds 0 = .ok (.iconst 0, 1) := dc_3 (by decide +kernel)
theorem dX0_holds_1 : decode cX0_holds 1 = .ok (.istore 5, 2) := dc_54 5 (by decide +kernel)
theorem dX0_holds_3 : decode cX0_holds 3 = .ok (.iconst 1, 1) := dc_4 (by decide +kernel)
theorem dX0_holds_4 : decode cX0_holds 4 = .ok (.istore 6, 2) := dc_54 6 (by decide +kernel)
theorem dX0_holds_6 : decode cX0_holds 6 = .ok (.iconst 0, 1) := dc_3 (by decide +kernel)
theorem dX0_holds_7 : decode cX0_holds 7 = .ok (.istore 7, 2) := dc_54 7 (by decide +kernel)
theorem dX0_holds_9 : decode cX0_holds 9 = .ok (.iconst 0, 1) := dc_3 (by decide +kernel)
theorem dX0_holds_10 : decode cX0_holds 10 = .ok (.istore 8, 2) := dc_54 8 (by decide +kernel)
theorem dX0_holds_12 : decode cX0_holds 12 = .ok (.iload_n 1, 1) := dc_27 (by decide +kernel)
theorem dX0_holds_13 : decode cX0_holds 13 = .ok (.istore 9, 2) := dc_54 9 (by decide +kernel)
theorem dX0_holds_15 : decode cX0_holds 15 = .ok (.iload 9, 2) := dc_21 9 (by decide +kernel)
theorem dX0_holds_17 : decode cX0_holds 17 = .ok (.aload_n 0, 1) := dc_42 (by decide +kernel)
theorem dX0_holds_18 : decode cX0_holds 18 = .ok (.getfield 34, 3) := dc_180 0 34 (by decide +kernel)
theorem dX0_holds_21 : decode cX0_holds 21 = .ok (.if_icmp .ge 253, 3) := dc_162 0 253 253 (by decide +kernel)
theorem dX0_holds_274 : decode cX0_holds 274 = .ok (.iload 5, 2) := dc_21 5 (by decide +kernel)
theorem dX0_holds_276 : decode cX0_holds 276 = .ok (.ifCond .ne 8, 3) := dc_154 0 8 8 (by decide +kernel)
theorem dX0_holds_279 : decode cX0_holds 279 = .ok (.iload 6, 2) := dc_21 6 (by decide +kernel)
theorem dX0_holds_281 : decode cX0_holds 281 = .ok (.ifCond .eq 7, 3) := dc_153 0 7 7 (by decide +kernel)
theorem dX0_holds_284 : decode cX0_holds 284 = .ok (.iconst 1, 1) := dc_4 (by decide +kernel)
theorem dX0_holds_285 : decode cX0_holds 285 = .ok (.goto 4, 3) := dc_167 0 4 4 (by decide +kernel)
theorem dX0_holds_289 : decode cX0_holds 289 = .ok (.ireturn, 1) := dc_172 (by decide +kernel)
theorem dX0_holds_24 : decode cX0_holds 24 = .ok (.aload_n 0, 1) := dc_42 (by decide +kernel)
theorem dX0_holds_25 : decode cX0_holds 25 = .ok (.getfield 9, 3) := dc_180 0 9 (by decide +kernel)
theorem dX0_holds_28 : decode cX0_holds 28 = .ok (.iload 9, 2) := dc_21 9 (by decide +kernel)
theorem dX0_holds_30 : decode cX0_holds 30 = .ok (.baload, 1) := dc_51 (by decide +kernel)
theorem dX0_holds_31 : decode cX0_holds 31 = .ok (.bipush 59, 2) := dc_16 59 59 (by decide +kernel)
theorem dX0_holds_33 : decode cX0_holds 33 = .ok (.if_icmp .eq 241, 3) := dc_159 0 241 241 (by decide +kernel)
theorem dX0_holds_36 : decode cX0_holds 36 = .ok (.aload_n 0, 1) := dc_42 (by decide +kernel)
theorem dX0_holds_37 : decode cX0_holds 37 = .ok (.getfield 9, 3) := dc_180 0 9 (by decide +kernel)
theorem dX0_holds_40 : decode cX0_holds 40 = .ok (.iload 9, 2) := dc_21 9 (by decide +kernel)
theorem dX0_holds_42 : decode cX0_holds 42 = .ok (.baload, 1) := dc_51 (by decide +kernel)
theorem dX0_holds_43 : decode cX0_holds 43 = .ok (.istore 10, 2) := dc_54 10 (by decide +kernel)
theorem dX0_holds_45 : decode cX0_holds 45 = .ok (.iload 10, 2) := dc_21 10 (by decide +kernel)
theorem dX0_holds_47 : decode cX0_holds 47 = .ok (.bipush 33, 2) := dc_16 33 33 (by decide +kernel)
theorem dX0_holds_49 : decode cX0_holds 49 = .ok (.if_icmp .ne 18, 3) := dc_160 0 18 18 (by decide +kernel)
theorem dX0_holds_67 : decode cX0_holds 67 = .ok (.iload 10, 2) := dc_21 10 (by decide +kernel)
theorem dX0_holds_69 : decode cX0_holds 69 = .ok (.bipush 124, 2) := dc_16 124 124 (by decide +kernel)
theorem dX0_holds_71 : decode cX0_holds 71 = .ok (.if_icmp .ne 16, 3) := dc_160 0 16 16 (by decide +kernel)
theorem dX0_holds_87 : decode cX0_holds 87 = .ok (.iload 10, 2) := dc_21 10 (by decide +kernel)
theorem dX0_holds_89 : decode cX0_holds 89 = .ok (.bipush 40, 2) := dc_16 40 40 (by decide +kernel)
theorem dX0_holds_91 : decode cX0_holds 91 = .ok (.if_icmp .ne 54, 3) := dc_160 0 54 54 (by decide +kernel)
theorem dX0_holds_145 : decode cX0_holds 145 = .ok (.iload 10, 2) := dc_21 10 (by decide +kernel)
theorem dX0_holds_147 : decode cX0_holds 147 = .ok (.bipush 41, 2) := dc_16 41 41 (by decide +kernel)
theorem dX0_holds_149 : decode cX0_holds 149 = .ok (.if_icmp .ne 77, 3) := dc_160 0 77 77 (by decide +kernel)
theorem dX0_holds_226 : decode cX0_holds 226 = .ok (.iload 10, 2) := dc_21 10 (by decide +kernel)
theorem dX0_holds_228 : decode cX0_holds 228 = .ok (.bipush 97, 2) := dc_16 97 97 (by decide +kernel)
theorem dX0_holds_230 : decode cX0_holds 230 = .ok (.if_icmp .lt 38, 3) := dc_161 0 38 38 (by decide +kernel)
theorem dX0_holds_268 : decode cX0_holds 268 = .ok (.iinc 9 1, 3) := dc_132 9 1 1 (by decide +kernel)
theorem dX0_holds_271 : decode cX0_holds 271 = .ok (.goto (-256), 3) := dc_167 255 0 (-256) (by decide +kernel)
theorem dX0_holds_233 : decode cX0_holds 233 = .ok (.iload 10, 2) := dc_21 10 (by decide +kernel)
theorem dX0_holds_235 : decode cX0_holds 235 = .ok (.bipush 122, 2) := dc_16 122 122 (by decide +kernel)
theorem dX0_holds_237 : decode cX0_holds 237 = .ok (.if_icmp .gt 31, 3) := dc_163 0 31 31 (by decide +kernel)
theorem dX0_holds_240 : decode cX0_holds 240 = .ok (.iload 6, 2) := dc_21 6 (by decide +kernel)
theorem dX0_holds_242 : decode cX0_holds 242 = .ok (.aload_n 0, 1) := dc_42 (by decide +kernel)
theorem dX0_holds_243 : decode cX0_holds 243 = .ok (.iload 9, 2) := dc_21 9 (by decide +kernel)
theorem dX0_holds_245 : decode cX0_holds 245 = .ok (.aload_n 2, 1) := dc_44 (by decide +kernel)
theorem dX0_holds_246 : decode cX0_holds 246 = .ok (.iload_n 3, 1) := dc_29 (by decide +kernel)
theorem dX0_holds_247 : decode cX0_holds 247 = .ok (.iload 4, 2) := dc_21 4 (by decide +kernel)
theorem dX0_holds_249 : decode cX0_holds 249 = .ok (.invokevirtual 54, 3) := dc_182 0 54 (by decide +kernel)
theorem kw_4_109 : (Jvm.Cond.methodLink "ParishUnion$Act" (54 : Nat) ({ cls := "ParishUnion$Act", name := "isSo", desc := "(ILParishUnion$Person;II)Z" } : Jvm.MethodName)) ∈ gT := gT_of (tb_4 _ (List.mem_of_getElem? (i := 109) rfl)) rfl
theorem kw_4_112 : (Jvm.Cond.code ({ cls := "ParishUnion$Act", name := "isSo", desc := "(ILParishUnion$Person;II)Z" } : Jvm.MethodName) prog_2_method_6_code (5 : Nat) (Option.some Jvm.ClassFile.FieldType.boolean)) ∈ gT := gT_of (tb_4 _ (List.mem_of_getElem? (i := 112) rfl)) rfl
theorem okX0_isSo : gQok yX0_isSo cX0_isSo 5 (Option.some Jvm.ClassFile.FieldType.boolean) 4 := ⟨kw_4_112, kw_1_10, by decide +kernel, by decide +kernel, by decide +kernel⟩
theorem kw_4_111 : (Jvm.Cond.instanceMethod ({ cls := "ParishUnion$Act", name := "isSo", desc := "(ILParishUnion$Person;II)Z" } : Jvm.MethodName)) ∈ gT := gT_of (tb_4 _ (List.mem_of_getElem? (i := 111) rfl)) rfl
theorem kw_0_18 : (Jvm.Cond.selects "ParishUnion$Act" ({ cls := "ParishUnion$Act", name := "isSo", desc := "(ILParishUnion$Person;II)Z" } : Jvm.MethodName) ({ cls := "ParishUnion$Act", name := "isSo", desc := "(ILParishUnion$Person;II)Z" } : Jvm.MethodName)) ∈ gT := gT_of (tb_0 _ (List.mem_of_getElem? (i := 18) rfl)) rfl
theorem dX0_holds_252 : decode cX0_holds 252 = .ok (.iload 7, 2) := dc_21 7 (by decide +kernel)
theorem dX0_holds_254 : decode cX0_holds 254 = .ok (.if_icmp .eq 7, 3) := dc_159 0 7 7 (by decide +kernel)
theorem dX0_holds_261 : decode cX0_holds 261 = .ok (.iconst 0, 1) := dc_3 (by decide +kernel)
theorem dX0_holds_262 : decode cX0_holds 262 = .ok (.iand, 1) := dc_126 (by decide +kernel)
theorem dX0_holds_263 : decode cX0_holds 263 = .ok (.istore 6, 2) := dc_54 6 (by decide +kernel)
theorem dX0_holds_265 : decode cX0_holds 265 = .ok (.iconst 0, 1) := dc_3 (by decide +kernel)
theorem dX0_holds_266 : decode cX0_holds 266 = .ok (.istore 7, 2) := dc_54 7 (by decide +kernel)
theorem dX0_holds_257 : decode cX0_holds 257 = .ok (.iconst 1, 1) := dc_4 (by decide +kernel)
theorem dX0_holds_258 : decode cX0_holds 258 = .ok (.goto 4, 3) := dc_167 0 4 4 (by decide +kernel)
theorem dX0_holds_152 : decode cX0_holds 152 = .ok (.iload 5, 2) := dc_21 5 (by decide +kernel)
theorem dX0_holds_154 : decode cX0_holds 154 = .ok (.ifCond .ne 8, 3) := dc_154 0 8 8 (by decide +kernel)
theorem dX0_holds_157 : decode cX0_holds 157 = .ok (.iload 6, 2) := dc_21 6 (by decide +kernel)
theorem dX0_holds_159 : decode cX0_holds 159 = .ok (.ifCond .eq 7, 3) := dc_153 0 7 7 (by decide +kernel)
theorem dX0_holds_162 : decode cX0_holds 162 = .ok (.iconst 1, 1) := dc_4 (by decide +kernel)
theorem dX0_holds_163 : decode cX0_holds 163 = .ok (.goto 4, 3) := dc_167 0 4 4 (by decide +kernel)
theorem dX0_holds_167 : decode cX0_holds 167 = .ok (.istore 11, 2) := dc_54 11 (by decide +kernel)
theorem dX0_holds_169 : decode cX0_holds 169 = .ok (.iload 8, 2) := dc_21 8 (by decide +kernel)
theorem dX0_holds_171 : decode cX0_holds 171 = .ok (.iconst 4, 1) := dc_7 (by decide +kernel)
theorem dX0_holds_172 : decode cX0_holds 172 = .ok (.iand, 1) := dc_126 (by decide +kernel)
theorem dX0_holds_173 : decode cX0_holds 173 = .ok (.ifCond .eq 7, 3) := dc_153 0 7 7 (by decide +kernel)
theorem dX0_holds_180 : decode cX0_holds 180 = .ok (.iconst 0, 1) := dc_3 (by decide +kernel)
theorem dX0_holds_181 : decode cX0_holds 181 = .ok (.istore 5, 2) := dc_54 5 (by decide +kernel)
theorem dX0_holds_183 : decode cX0_holds 183 = .ok (.iload 8, 2) := dc_21 8 (by decide +kernel)
theorem dX0_holds_185 : decode cX0_holds 185 = .ok (.iconst 2, 1) := dc_5 (by decide +kernel)
theorem dX0_holds_186 : decode cX0_holds 186 = .ok (.iand, 1) := dc_126 (by decide +kernel)
theorem dX0_holds_187 : decode cX0_holds 187 = .ok (.ifCond .eq 24, 3) := dc_153 0 24 24 (by decide +kernel)
theorem dX0_holds_211 : decode cX0_holds 211 = .ok (.iconst 0, 1) := dc_3 (by decide +kernel)
theorem dX0_holds_212 : decode cX0_holds 212 = .ok (.istore 6, 2) := dc_54 6 (by decide +kernel)
theorem dX0_holds_214 : decode cX0_holds 214 = .ok (.iconst 0, 1) := dc_3 (by decide +kernel)
theorem dX0_holds_215 : decode cX0_holds 215 = .ok (.istore 7, 2) := dc_54 7 (by decide +kernel)
theorem dX0_holds_217 : decode cX0_holds 217 = .ok (.iload 8, 2) := dc_21 8 (by decide +kernel)
theorem dX0_holds_219 : decode cX0_holds 219 = .ok (.iconst 3, 1) := dc_6 (by decide +kernel)
theorem dX0_holds_220 : decode cX0_holds 220 = .ok (.ishr, 1) := dc_122 (by decide +kernel)
theorem dX0_holds_221 : decode cX0_holds 221 = .ok (.istore 8, 2) := dc_54 8 (by decide +kernel)
theorem dX0_holds_223 : decode cX0_holds 223 = .ok (.goto 45, 3) := dc_167 0 45 45 (by decide +kernel)
theorem dX0_holds_190 : decode cX0_holds 190 = .ok (.iload 11, 2) := dc_21 11 (by decide +kernel)
theorem dX0_holds_192 : decode cX0_holds 192 = .ok (.iload 8, 2) := dc_21 8 (by decide +kernel)
theorem dX0_holds_194 : decode cX0_holds 194 = .ok (.iconst 1, 1) := dc_4 (by decide +kernel)
theorem dX0_holds_195 : decode cX0_holds 195 = .ok (.iand, 1) := dc_126 (by decide +kernel)
theorem dX0_holds_196 : decode cX0_holds 196 = .ok (.ifCond .eq 7, 3) := dc_153 0 7 7 (by decide +kernel)
theorem dX0_holds_203 : decode cX0_holds 203 = .ok (.iconst 0, 1) := dc_3 (by decide +kernel)
theorem dX0_holds_204 : decode cX0_holds 204 = .ok (.if_icmp .eq 7, 3) := dc_159 0 7 7 (by decide +kernel)
theorem dX0_holds_207 : decode cX0_holds 207 = .ok (.iconst 1, 1) := dc_4 (by decide +kernel)
theorem dX0_holds_208 : decode cX0_holds 208 = .ok (.goto 4, 3) := dc_167 0 4 4 (by decide +kernel)
theorem dX0_holds_199 : decode cX0_holds 199 = .ok (.iconst 1, 1) := dc_4 (by decide +kernel)
theorem dX0_holds_200 : decode cX0_holds 200 = .ok (.goto 4, 3) := dc_167 0 4 4 (by decide +kernel)
theorem dX0_holds_176 : decode cX0_holds 176 = .ok (.iconst 1, 1) := dc_4 (by decide +kernel)
theorem dX0_holds_177 : decode cX0_holds 177 = .ok (.goto 4, 3) := dc_167 0 4 4 (by decide +kernel)
theorem dX0_holds_94 : decode cX0_holds 94 = .ok (.iload 8, 2) := dc_21 8 (by decide +kernel)
theorem dX0_holds_96 : decode cX0_holds 96 = .ok (.iconst 3, 1) := dc_6 (by decide +kernel)
theorem dX0_holds_97 : decode cX0_holds 97 = .ok (.ishl, 1) := dc_120 (by decide +kernel)
theorem dX0_holds_98 : decode cX0_holds 98 = .ok (.iload 5, 2) := dc_21 5 (by decide +kernel)
theorem dX0_holds_100 : decode cX0_holds 100 = .ok (.ifCond .eq 7, 3) := dc_153 0 7 7 (by decide +kernel)
theorem dX0_holds_107 : decode cX0_holds 107 = .ok (.iconst 0, 1) := dc_3 (by decide +kernel)
theorem dX0_holds_108 : decode cX0_holds 108 = .ok (.ior, 1) := dc_128 (by decide +kernel)
theorem dX0_holds_109 : decode cX0_holds 109 = .ok (.iload 6, 2) := dc_21 6 (by decide +kernel)
theorem dX0_holds_111 : decode cX0_holds 111 = .ok (.ifCond .eq 7, 3) := dc_153 0 7 7 (by decide +kernel)
theorem dX0_holds_114 : decode cX0_holds 114 = .ok (.iconst 2, 1) := dc_5 (by decide +kernel)
theorem dX0_holds_115 : decode cX0_holds 115 = .ok (.goto 4, 3) := dc_167 0 4 4 (by decide +kernel)
theorem dX0_holds_119 : decode cX0_holds 119 = .ok (.ior, 1) := dc_128 (by decide +kernel)
theorem dX0_holds_120 : decode cX0_holds 120 = .ok (.iload 7, 2) := dc_21 7 (by decide +kernel)
theorem dX0_holds_122 : decode cX0_holds 122 = .ok (.ifCond .eq 7, 3) := dc_153 0 7 7 (by decide +kernel)
theorem dX0_holds_129 : decode cX0_holds 129 = .ok (.iconst 0, 1) := dc_3 (by decide +kernel)
theorem dX0_holds_130 : decode cX0_holds 130 = .ok (.ior, 1) := dc_128 (by decide +kernel)
theorem dX0_holds_131 : decode cX0_holds 131 = .ok (.istore 8, 2) := dc_54 8 (by decide +kernel)
theorem dX0_holds_133 : decode cX0_holds 133 = .ok (.iconst 0, 1) := dc_3 (by decide +kernel)
theorem dX0_holds_134 : decode cX0_holds 134 = .ok (.istore 5, 2) := dc_54 5 (by decide +kernel)
theorem dX0_holds_136 : decode cX0_holds 136 = .ok (.iconst 1, 1) := dc_4 (by decide +kernel)
theorem dX0_holds_137 : decode cX0_holds 137 = .ok (.istore 6, 2) := dc_54 6 (by decide +kernel)
theorem dX0_holds_139 : decode cX0_holds 139 = .ok (.iconst 0, 1) := dc_3 (by decide +kernel)
theorem dX0_holds_140 : decode cX0_holds 140 = .ok (.istore 7, 2) := dc_54 7 (by decide +kernel)
theorem dX0_holds_142 : decode cX0_holds 142 = .ok (.goto 126, 3) := dc_167 0 126 126 (by decide +kernel)
theorem dX0_holds_74 : decode cX0_holds 74 = .ok (.iload 5, 2) := dc_21 5 (by decide +kernel)
theorem dX0_holds_76 : decode cX0_holds 76 = .ok (.iload 6, 2) := dc_21 6 (by decide +kernel)
theorem dX0_holds_78 : decode cX0_holds 78 = .ok (.ior, 1) := dc_128 (by decide +kernel)
theorem dX0_holds_79 : decode cX0_holds 79 = .ok (.istore 5, 2) := dc_54 5 (by decide +kernel)
theorem dX0_holds_81 : decode cX0_holds 81 = .ok (.iconst 1, 1) := dc_4 (by decide +kernel)
theorem dX0_holds_82 : decode cX0_holds 82 = .ok (.istore 6, 2) := dc_54 6 (by decide +kernel)
theorem dX0_holds_84 : decode cX0_holds 84 = .ok (.goto 184, 3) := dc_167 0 184 184 (by decide +kernel)
theorem dX0_holds_52 : decode cX0_holds 52 = .ok (.iload 7, 2) := dc_21 7 (by decide +kernel)
theorem dX0_holds_54 : decode cX0_holds 54 = .ok (.ifCond .ne 7, 3) := dc_154 0 7 7 (by decide +kernel)
theorem dX0_holds_57 : decode cX0_holds 57 = .ok (.iconst 1, 1) := dc_4 (by decide +kernel)
theorem dX0_holds_58 : decode cX0_holds 58 = .ok (.goto 4, 3) := dc_167 0 4 4 (by decide +kernel)
theorem dX0_holds_62 : decode cX0_holds 62 = .ok (.istore 7, 2) := dc_54 7 (by decide +kernel)
theorem dX0_holds_64 : decode cX0_holds 64 = .ok (.goto 204, 3) := dc_167 0 204 204 (by decide +kernel)
theorem dX0_holds_288 : decode cX0_holds 288 = .ok (.iconst 0, 1) := dc_3 (by decide +kernel)
theorem dX0_holds_166 : decode cX0_holds 166 = .ok (.iconst 0, 1) := dc_3 (by decide +kernel)
theorem dX0_holds_118 : decode cX0_holds 118 = .ok (.iconst 0, 1) := dc_3 (by decide +kernel)
theorem dX0_holds_125 : decode cX0_holds 125 = .ok (.iconst 1, 1) := dc_4 (by decide +kernel)
theorem dX0_holds_126 : decode cX0_holds 126 = .ok (.goto 4, 3) := dc_167 0 4 4 (by decide +kernel)
theorem dX0_holds_103 : decode cX0_holds 103 = .ok (.iconst 4, 1) := dc_7 (by decide +kernel)
theorem dX0_holds_104 : decode cX0_holds 104 = .ok (.goto 4, 3) := dc_167 0 4 4 (by decide +kernel)
theorem dX0_holds_61 : decode cX0_holds 61 = .ok (.iconst 0, 1) := dc_3 (by decide +kernel)
abbrev R_X0_holds : Room := { frames := 2, cells := 0, slots := 0, locals := 47 }
set_option maxRecDepth 100000 in
set_option maxHeartbeats 4000000 in
theorem s_X0_holds {l : Launch} {n0 : Nat} {D : va_G} {cA : Nat → ClassId} {M : gM} (o : Int) (r_o : 87 ≤ o ∧ o ≤ 147 ∧ (o - 87) % 6 = 0) (a : Int) (r_a : 0 ≤ a ∧ a ≤ 150) (ob : Int) (r_ob : 31 ≤ ob ∧ ob < 47) (c : Int) (r_c : 0 ≤ c ∧ c ≤ 300) (d : Int) (r_d : -2147483648 ≤ d ∧ d ≤ 2147483647) {sz : Nat} (hsz : 206 ≤ sz) (I : gI sz M) (C : gC sz M)   : Met l yX0_holds (gWsOf yX0_holds cX0_holds 12 (Option.some Jvm.ClassFile.FieldType.boolean)) R_X0_holds (gPc n0 D cA [gA n0 o, gJ a, gA n0 ob, gJ c, gJ d] M sz) (gQi n0 D cA sz (fun z M1 => M = M1 ∧ (0 ≤ z ∧ z ≤ 1))) 0 0 (fun q => n0 ≤ q) := by
  refine gMetZ [gA n0 o, gJ a, gA n0 ob, gJ c, gJ d] (by decide) (Nat.le_of_ble_eq_true rfl) ⟨rfl, rfl⟩ ?_
  intro p e s m args below meth cd Q X hq
  have X : gCx p s m args meth cd n0 D cA "ParishUnion$Act" cX0_holds 12 := X
  show G p l e R_X0_holds s m args below meth cd n0 D cA 12 Q 0 0 M sz 0 [(0, gA n0 o), (1, gJ a), (2, gA n0 ob), (3, gJ c), (4, gJ d)] []
  refine g_iconst (n := 1) X dX0_holds_0 rfl ?_
  refine g_istore (n := 3) (L' := [(5, gJ 0), (0, gA n0 o), (1, gJ a), (2, gA n0 ob), (3, gJ c), (4, gJ d)]) X dX0_holds_1 (by decide) rfl rfl ?_
  refine g_iconst (n := 4) X dX0_holds_3 rfl ?_
  refine g_istore (n := 6) (L' := [(6, gJ 1), (5, gJ 0), (0, gA n0 o), (1, gJ a), (2, gA n0 ob), (3, gJ c), (4, gJ d)]) X dX0_holds_4 (by decide) rfl rfl ?_
  refine g_iconst (n := 7) X dX0_holds_6 rfl ?_
  refine g_istore (n := 9) (L' := [(7, gJ 0), (6, gJ 1), (5, gJ 0), (0, gA n0 o), (1, gJ a), (2, gA n0 ob), (3, gJ c), (4, gJ d)]) X dX0_holds_7 (by decide) rfl rfl ?_
  refine g_iconst (n := 10) X dX0_holds_9 rfl ?_
  refine g_istore (n := 12) (L' := [(8, gJ 0), (7, gJ 0), (6, gJ 1), (5, gJ 0), (0, gA n0 o), (1, gJ a), (2, gA n0 ob), (3, gJ c), (4, gJ d)]) X dX0_holds_10 (by decide) rfl rfl ?_
  refine g_iload_n (n := 13) X 5 dX0_holds_12 rfl rfl rfl ?_
  refine g_istore (n := 15) (L' := [(9, gJ a), (8, gJ 0), (7, gJ 0), (6, gJ 1), (5, gJ 0), (0, gA n0 o), (1, gJ a), (2, gA n0 ob), (3, gJ c), (4, gJ d)]) X dX0_holds_13 (by decide) rfl rfl ?_
  have j7 : ∀ (N156 : Nat) (v1 v2 v3 v4 v5 : Int) , (0 ≤ v1 ∧ v1 ≤ 1) → (0 ≤ v2 ∧ v2 ≤ 1) → (0 ≤ v3 ∧ v3 ≤ 1) → (-2147483648 ≤ v4 ∧ v4 ≤ 2147483647) → (0 ≤ v5 ∧ v5 ≤ 150) → (150 - v5).toNat < N156 → G p l e R_X0_holds s m args below meth cd n0 D cA 12 Q 0 0 M sz 15 [(0, gA n0 o), (2, gA n0 ob), (3, gJ c), (4, gJ d), (5, gJ v1), (6, gJ v2), (7, gJ v3), (8, gJ v4), (9, gJ v5)] [] := by
    intro N156; induction N156 with
    | zero => intro v1 v2 v3 v4 v5 rv1 rv2 rv3 rv4 rv5 hm158; exfalso; omega
    | succ N156 ih157 =>
      intro v1 v2 v3 v4 v5 rv1 rv2 rv3 rv4 rv5 hm158
      refine g_iload (n := 17) X 8 dX0_holds_15 rfl rfl ?_
      refine g_aload_n (n := 18) X 0 dX0_holds_17 rfl rfl rfl ?_
      obtain ⟨v159, hv159, rv159⟩ := gRd I (Ao0 r_o) (Aosz hsz r_o) (rA_5 r_o).1
      refine gg_0_5 (n := 21) (z := v159) X (Ao0 r_o) (Aosz hsz r_o) (lay2_A r_o) kw_2_82 dX0_holds_18 rfl hv159 ?_
      refine g_icmp_ge (n := 24) (tgt := 274) X dX0_holds_21 (by decide) (by omega) (by omega) rfl (fun c160 => ?_) (fun c160 => ?_)
      · refine g_iload (n := 276) X 4 dX0_holds_274 rfl rfl ?_
        refine g_if_ne (n := 279) (tgt := 284) X dX0_holds_276 (by decide) (by omega) rfl (fun c161 => ?_) (fun c161 => ?_)
        · refine g_iconst (n := 285) X dX0_holds_284 rfl ?_
          refine g_goto (tgt := 289) X dX0_holds_285 (by decide) ?_
          exact hq _ _ _ _ dX0_holds_289 (by omega) ⟨rfl, by omega⟩
        · refine g_iload (n := 281) X 5 dX0_holds_279 rfl rfl ?_
          refine g_if_eq (n := 284) (tgt := 288) X dX0_holds_281 (by decide) (by omega) rfl (fun c162 => ?_) (fun c162 => ?_)
          · refine g_iconst (n := 289) X dX0_holds_288 rfl ?_
            exact hq _ _ _ _ dX0_holds_289 (by omega) ⟨rfl, by omega⟩
          · refine g_iconst (n := 285) X dX0_holds_284 rfl ?_
            refine g_goto (tgt := 289) X dX0_holds_285 (by decide) ?_
            exact hq _ _ _ _ dX0_holds_289 (by omega) ⟨rfl, by omega⟩
      · refine g_aload_n (n := 25) X 0 dX0_holds_24 rfl rfl rfl ?_
        refine gg_0_0 (n := 28) (z := o + 1) X (Ao0 r_o) (Aosz hsz r_o) (lay2_A r_o) kw_2_71 dX0_holds_25 rfl (rfA_0 I hsz r_o) (by omega) ?_
        refine g_iload (n := 30) X 8 dX0_holds_28 rfl rfl ?_
        obtain ⟨v163, hv163, rv163⟩ := gRd I (A1o0 r_o) (A1osz hsz r_o) (rAA_1 r_o v5).1
        refine g_bald2 (n := 31) (v := v163) X (A1o0 r_o) (A1osz hsz r_o) (lay2_A1 r_o) (by omega) (by omega) (by decide) dX0_holds_30 rfl hv163 ?_
        refine g_bipush (n := 33) X dX0_holds_31 (by decide +kernel) rfl ?_
        refine g_icmp_eq (n := 36) (tgt := 274) X dX0_holds_33 (by decide) (by omega) (by omega) rfl (fun c164 => ?_) (fun c164 => ?_)
        · refine g_iload (n := 276) X 4 dX0_holds_274 rfl rfl ?_
          refine g_if_ne (n := 279) (tgt := 284) X dX0_holds_276 (by decide) (by omega) rfl (fun c165 => ?_) (fun c165 => ?_)
          · refine g_iconst (n := 285) X dX0_holds_284 rfl ?_
            refine g_goto (tgt := 289) X dX0_holds_285 (by decide) ?_
            exact hq _ _ _ _ dX0_holds_289 (by omega) ⟨rfl, by omega⟩
          · refine g_iload (n := 281) X 5 dX0_holds_279 rfl rfl ?_
            refine g_if_eq (n := 284) (tgt := 288) X dX0_holds_281 (by decide) (by omega) rfl (fun c166 => ?_) (fun c166 => ?_)
            · refine g_iconst (n := 289) X dX0_holds_288 rfl ?_
              exact hq _ _ _ _ dX0_holds_289 (by omega) ⟨rfl, by omega⟩
            · refine g_iconst (n := 285) X dX0_holds_284 rfl ?_
              refine g_goto (tgt := 289) X dX0_holds_285 (by decide) ?_
              exact hq _ _ _ _ dX0_holds_289 (by omega) ⟨rfl, by omega⟩
        · refine g_aload_n (n := 37) X 0 dX0_holds_36 rfl rfl rfl ?_
          refine gg_0_0 (n := 40) (z := o + 1) X (Ao0 r_o) (Aosz hsz r_o) (lay2_A r_o) kw_2_71 dX0_holds_37 rfl (rfA_0 I hsz r_o) (by omega) ?_
          refine g_iload (n := 42) X 8 dX0_holds_40 rfl rfl ?_
          refine g_bald2 (n := 43) (v := v163) X (A1o0 r_o) (A1osz hsz r_o) (lay2_A1 r_o) (by omega) (by omega) (by decide) dX0_holds_42 rfl hv163 ?_
          refine g_istore (n := 45) (L' := [(10, gJ v163), (0, gA n0 o), (2, gA n0 ob), (3, gJ c), (4, gJ d), (5, gJ v1), (6, gJ v2), (7, gJ v3), (8, gJ v4), (9, gJ v5)]) X dX0_holds_43 (by decide) rfl rfl ?_
          refine g_iload (n := 47) X 0 dX0_holds_45 rfl rfl ?_
          refine g_bipush (n := 49) X dX0_holds_47 (by decide +kernel) rfl ?_
          refine g_icmp_ne (n := 52) (tgt := 67) X dX0_holds_49 (by decide) (by omega) (by omega) rfl (fun c167 => ?_) (fun c167 => ?_)
          · refine g_iload (n := 69) X 0 dX0_holds_67 rfl rfl ?_
            refine g_bipush (n := 71) X dX0_holds_69 (by decide +kernel) rfl ?_
            refine g_icmp_ne (n := 74) (tgt := 87) X dX0_holds_71 (by decide) (by omega) (by omega) rfl (fun c168 => ?_) (fun c168 => ?_)
            · refine g_iload (n := 89) X 0 dX0_holds_87 rfl rfl ?_
              refine g_bipush (n := 91) X dX0_holds_89 (by decide +kernel) rfl ?_
              refine g_icmp_ne (n := 94) (tgt := 145) X dX0_holds_91 (by decide) (by omega) (by omega) rfl (fun c169 => ?_) (fun c169 => ?_)
              · refine g_iload (n := 147) X 0 dX0_holds_145 rfl rfl ?_
                refine g_bipush (n := 149) X dX0_holds_147 (by decide +kernel) rfl ?_
                refine g_icmp_ne (n := 152) (tgt := 226) X dX0_holds_149 (by decide) (by omega) (by omega) rfl (fun c170 => ?_) (fun c170 => ?_)
                · refine g_iload (n := 228) X 0 dX0_holds_226 rfl rfl ?_
                  refine g_bipush (n := 230) X dX0_holds_228 (by decide +kernel) rfl ?_
                  refine g_icmp_lt (n := 233) (tgt := 268) X dX0_holds_230 (by decide) (by omega) (by omega) rfl (fun c171 => ?_) (fun c171 => ?_)
                  · refine g_iinc (n := 271) (w := v5 + 1) (L' := [(9, gJ (v5 + 1)), (10, gJ v163), (0, gA n0 o), (2, gA n0 ob), (3, gJ c), (4, gJ d), (5, gJ v1), (6, gJ v2), (7, gJ v3), (8, gJ v4)]) X 9 dX0_holds_268 rfl rfl (by decide) rfl rfl ?_
                    refine g_goto (tgt := 15) X dX0_holds_271 (by decide) ?_
                    refine G.sub (L' := [(0, gA n0 o), (2, gA n0 ob), (3, gJ c), (4, gJ d), (5, gJ v1), (6, gJ v2), (7, gJ v3), (8, gJ v4), (9, gJ (v5 + 1))]) [2, 3, 4, 5, 6, 7, 8, 9, 0] rfl ?_
                    exact ih157 v1 v2 v3 v4 (v5 + 1) (by omega) (by omega) (by omega) (by omega) (by omega) (by omega)
                  · refine g_iload (n := 235) X 0 dX0_holds_233 rfl rfl ?_
                    refine g_bipush (n := 237) X dX0_holds_235 (by decide +kernel) rfl ?_
                    refine g_icmp_gt (n := 240) (tgt := 268) X dX0_holds_237 (by decide) (by omega) (by omega) rfl (fun c172 => ?_) (fun c172 => ?_)
                    · refine g_iinc (n := 271) (w := v5 + 1) (L' := [(9, gJ (v5 + 1)), (10, gJ v163), (0, gA n0 o), (2, gA n0 ob), (3, gJ c), (4, gJ d), (5, gJ v1), (6, gJ v2), (7, gJ v3), (8, gJ v4)]) X 9 dX0_holds_268 rfl rfl (by decide) rfl rfl ?_
                      refine g_goto (tgt := 15) X dX0_holds_271 (by decide) ?_
                      refine G.sub (L' := [(0, gA n0 o), (2, gA n0 ob), (3, gJ c), (4, gJ d), (5, gJ v1), (6, gJ v2), (7, gJ v3), (8, gJ v4), (9, gJ (v5 + 1))]) [2, 3, 4, 5, 6, 7, 8, 9, 0] rfl ?_
                      exact ih157 v1 v2 v3 v4 (v5 + 1) (by omega) (by omega) (by omega) (by omega) (by omega) (by omega)
                    · refine g_iload (n := 242) X 6 dX0_holds_240 rfl rfl ?_
                      refine g_aload_n (n := 243) X 1 dX0_holds_242 rfl rfl rfl ?_
                      refine g_iload (n := 245) X 9 dX0_holds_243 rfl rfl ?_
                      refine g_aload_n (n := 246) X 2 dX0_holds_245 rfl rfl rfl ?_
                      refine g_iload_n (n := 247) X 3 dX0_holds_246 rfl rfl rfl ?_
                      refine g_iload (n := 249) X 4 dX0_holds_247 rfl rfl ?_
                      refine g_callVi (n := 252) (As := [gJ v5, gA n0 ob, gJ c, gJ d]) (rest := [gJ v2]) (cs1 := 0) (ss1 := 0) X (s_X0_isSo o r_o v5 (by omega) ob r_ob c (by omega) d (by omega) hsz I C ) okX0_isSo kw_4_109 ⟨kw_4_111, kw_0_18⟩ ⟨rfl, rfl⟩ ⟨Nat.le_of_ble_eq_true rfl, Nat.le_of_ble_eq_true rfl⟩ rfl (Ao0 r_o) (Aosz hsz r_o) (lay2_A r_o) rfl rfl (Nat.le_of_ble_eq_true rfl) ⟨Nat.le_of_ble_eq_true rfl, Nat.le_of_ble_eq_true rfl⟩ rfl rfl dX0_holds_249 rfl (fun v173 M174 P175 => ?_)
                      obtain ⟨rfl, rv173⟩ := P175
                      refine g_iload (n := 254) X 7 dX0_holds_252 rfl rfl ?_
                      refine g_icmp_eq (n := 257) (tgt := 261) X dX0_holds_254 (by decide) (by omega) (by omega) rfl (fun c176 => ?_) (fun c176 => ?_)
                      · refine g_iconst (n := 262) X dX0_holds_261 rfl ?_
                        refine g_iandC (n := 263) X dX0_holds_262 (by decide) rfl (fun v177 rv177 xv177 => ?_)
                        clear xv177
                        refine g_istore (n := 265) (L' := [(6, gJ v177), (10, gJ v163), (0, gA n0 o), (2, gA n0 ob), (3, gJ c), (4, gJ d), (5, gJ v1), (7, gJ v3), (8, gJ v4), (9, gJ v5)]) X dX0_holds_263 (by decide) rfl rfl ?_
                        refine g_iconst (n := 266) X dX0_holds_265 rfl ?_
                        refine g_istore (n := 268) (L' := [(7, gJ 0), (6, gJ v177), (10, gJ v163), (0, gA n0 o), (2, gA n0 ob), (3, gJ c), (4, gJ d), (5, gJ v1), (8, gJ v4), (9, gJ v5)]) X dX0_holds_266 (by decide) rfl rfl ?_
                        refine g_iinc (n := 271) (w := v5 + 1) (L' := [(9, gJ (v5 + 1)), (7, gJ 0), (6, gJ v177), (10, gJ v163), (0, gA n0 o), (2, gA n0 ob), (3, gJ c), (4, gJ d), (5, gJ v1), (8, gJ v4)]) X 9 dX0_holds_268 rfl rfl (by decide) rfl rfl ?_
                        refine g_goto (tgt := 15) X dX0_holds_271 (by decide) ?_
                        refine G.sub (L' := [(0, gA n0 o), (2, gA n0 ob), (3, gJ c), (4, gJ d), (5, gJ v1), (6, gJ v177), (7, gJ 0), (8, gJ v4), (9, gJ (v5 + 1))]) [4, 5, 6, 7, 8, 2, 1, 9, 0] rfl ?_
                        exact ih157 v1 v177 0 v4 (v5 + 1) (by omega) (by omega) (by omega) (by omega) (by omega) (by omega)
                      · refine g_iconst (n := 258) X dX0_holds_257 rfl ?_
                        refine g_goto (tgt := 262) X dX0_holds_258 (by decide) ?_
                        refine g_iandC (n := 263) X dX0_holds_262 (by decide) rfl (fun v178 rv178 xv178 => ?_)
                        clear xv178
                        refine g_istore (n := 265) (L' := [(6, gJ v178), (10, gJ v163), (0, gA n0 o), (2, gA n0 ob), (3, gJ c), (4, gJ d), (5, gJ v1), (7, gJ v3), (8, gJ v4), (9, gJ v5)]) X dX0_holds_263 (by decide) rfl rfl ?_
                        refine g_iconst (n := 266) X dX0_holds_265 rfl ?_
                        refine g_istore (n := 268) (L' := [(7, gJ 0), (6, gJ v178), (10, gJ v163), (0, gA n0 o), (2, gA n0 ob), (3, gJ c), (4, gJ d), (5, gJ v1), (8, gJ v4), (9, gJ v5)]) X dX0_holds_266 (by decide) rfl rfl ?_
                        refine g_iinc (n := 271) (w := v5 + 1) (L' := [(9, gJ (v5 + 1)), (7, gJ 0), (6, gJ v178), (10, gJ v163), (0, gA n0 o), (2, gA n0 ob), (3, gJ c), (4, gJ d), (5, gJ v1), (8, gJ v4)]) X 9 dX0_holds_268 rfl rfl (by decide) rfl rfl ?_
                        refine g_goto (tgt := 15) X dX0_holds_271 (by decide) ?_
                        refine G.sub (L' := [(0, gA n0 o), (2, gA n0 ob), (3, gJ c), (4, gJ d), (5, gJ v1), (6, gJ v178), (7, gJ 0), (8, gJ v4), (9, gJ (v5 + 1))]) [4, 5, 6, 7, 8, 2, 1, 9, 0] rfl ?_
                        exact ih157 v1 v178 0 v4 (v5 + 1) (by omega) (by omega) (by omega) (by omega) (by omega) (by omega)
                · refine g_iload (n := 154) X 5 dX0_holds_152 rfl rfl ?_
                  refine g_if_ne (n := 157) (tgt := 162) X dX0_holds_154 (by decide) (by omega) rfl (fun c179 => ?_) (fun c179 => ?_)
                  · refine g_iconst (n := 163) X dX0_holds_162 rfl ?_
                    refine g_goto (tgt := 167) X dX0_holds_163 (by decide) ?_
                    refine g_istore (n := 169) (L' := [(11, gJ 1), (10, gJ v163), (0, gA n0 o), (2, gA n0 ob), (3, gJ c), (4, gJ d), (5, gJ v1), (6, gJ v2), (7, gJ v3), (8, gJ v4), (9, gJ v5)]) X dX0_holds_167 (by decide) rfl rfl ?_
                    refine g_iload (n := 171) X 9 dX0_holds_169 rfl rfl ?_
                    refine g_iconst (n := 172) X dX0_holds_171 rfl ?_
                    refine g_iandC (n := 173) X dX0_holds_172 (by decide) rfl (fun v180 rv180 xv180 => ?_)
                    clear xv180
                    refine g_if_eq (n := 176) (tgt := 180) X dX0_holds_173 (by decide) (by omega) rfl (fun c181 => ?_) (fun c181 => ?_)
                    · refine g_iconst (n := 181) X dX0_holds_180 rfl ?_
                      refine g_istore (n := 183) (L' := [(5, gJ 0), (11, gJ 1), (10, gJ v163), (0, gA n0 o), (2, gA n0 ob), (3, gJ c), (4, gJ d), (6, gJ v2), (7, gJ v3), (8, gJ v4), (9, gJ v5)]) X dX0_holds_181 (by decide) rfl rfl ?_
                      refine g_iload (n := 185) X 9 dX0_holds_183 rfl rfl ?_
                      refine g_iconst (n := 186) X dX0_holds_185 rfl ?_
                      refine g_iandC (n := 187) X dX0_holds_186 (by decide) rfl (fun v182 rv182 xv182 => ?_)
                      clear xv182
                      refine g_if_eq (n := 190) (tgt := 211) X dX0_holds_187 (by decide) (by omega) rfl (fun c183 => ?_) (fun c183 => ?_)
                      · refine g_iconst (n := 212) X dX0_holds_211 rfl ?_
                        refine g_istore (n := 214) (L' := [(6, gJ 0), (5, gJ 0), (11, gJ 1), (10, gJ v163), (0, gA n0 o), (2, gA n0 ob), (3, gJ c), (4, gJ d), (7, gJ v3), (8, gJ v4), (9, gJ v5)]) X dX0_holds_212 (by decide) rfl rfl ?_
                        refine g_iconst (n := 215) X dX0_holds_214 rfl ?_
                        refine g_istore (n := 217) (L' := [(7, gJ 0), (6, gJ 0), (5, gJ 0), (11, gJ 1), (10, gJ v163), (0, gA n0 o), (2, gA n0 ob), (3, gJ c), (4, gJ d), (8, gJ v4), (9, gJ v5)]) X dX0_holds_215 (by decide) rfl rfl ?_
                        refine g_iload (n := 219) X 9 dX0_holds_217 rfl rfl ?_
                        refine g_iconst (n := 220) X dX0_holds_219 rfl ?_
                        refine g_ishrA (n := 221) X dX0_holds_220 rfl (fun v184 rv184 xv184 => ?_)
                        clear xv184
                        refine g_istore (n := 223) (L' := [(8, gJ v184), (7, gJ 0), (6, gJ 0), (5, gJ 0), (11, gJ 1), (10, gJ v163), (0, gA n0 o), (2, gA n0 ob), (3, gJ c), (4, gJ d), (9, gJ v5)]) X dX0_holds_221 (by decide) rfl rfl ?_
                        refine g_goto (tgt := 268) X dX0_holds_223 (by decide) ?_
                        refine g_iinc (n := 271) (w := v5 + 1) (L' := [(9, gJ (v5 + 1)), (8, gJ v184), (7, gJ 0), (6, gJ 0), (5, gJ 0), (11, gJ 1), (10, gJ v163), (0, gA n0 o), (2, gA n0 ob), (3, gJ c), (4, gJ d)]) X 10 dX0_holds_268 rfl rfl (by decide) rfl rfl ?_
                        refine g_goto (tgt := 15) X dX0_holds_271 (by decide) ?_
                        refine G.sub (L' := [(0, gA n0 o), (2, gA n0 ob), (3, gJ c), (4, gJ d), (5, gJ 0), (6, gJ 0), (7, gJ 0), (8, gJ v184), (9, gJ (v5 + 1))]) [7, 8, 9, 10, 4, 3, 2, 1, 0] rfl ?_
                        exact ih157 0 0 0 v184 (v5 + 1) (by omega) (by omega) (by omega) (by omega) (by omega) (by omega)
                      · refine g_iload (n := 192) X 1 dX0_holds_190 rfl rfl ?_
                        refine g_iload (n := 194) X 9 dX0_holds_192 rfl rfl ?_
                        refine g_iconst (n := 195) X dX0_holds_194 rfl ?_
                        refine g_iandC (n := 196) X dX0_holds_195 (by decide) rfl (fun v185 rv185 xv185 => ?_)
                        clear xv185
                        refine g_if_eq (n := 199) (tgt := 203) X dX0_holds_196 (by decide) (by omega) rfl (fun c186 => ?_) (fun c186 => ?_)
                        · refine g_iconst (n := 204) X dX0_holds_203 rfl ?_
                          refine g_icmp_eq (n := 207) (tgt := 211) X dX0_holds_204 (by decide) (by omega) (by omega) rfl (fun c187 => by exfalso; omega) (fun c187 => ?_)
                          refine g_iconst (n := 208) X dX0_holds_207 rfl ?_
                          refine g_goto (tgt := 212) X dX0_holds_208 (by decide) ?_
                          refine g_istore (n := 214) (L' := [(6, gJ 1), (5, gJ 0), (11, gJ 1), (10, gJ v163), (0, gA n0 o), (2, gA n0 ob), (3, gJ c), (4, gJ d), (7, gJ v3), (8, gJ v4), (9, gJ v5)]) X dX0_holds_212 (by decide) rfl rfl ?_
                          refine g_iconst (n := 215) X dX0_holds_214 rfl ?_
                          refine g_istore (n := 217) (L' := [(7, gJ 0), (6, gJ 1), (5, gJ 0), (11, gJ 1), (10, gJ v163), (0, gA n0 o), (2, gA n0 ob), (3, gJ c), (4, gJ d), (8, gJ v4), (9, gJ v5)]) X dX0_holds_215 (by decide) rfl rfl ?_
                          refine g_iload (n := 219) X 9 dX0_holds_217 rfl rfl ?_
                          refine g_iconst (n := 220) X dX0_holds_219 rfl ?_
                          refine g_ishrA (n := 221) X dX0_holds_220 rfl (fun v188 rv188 xv188 => ?_)
                          clear xv188
                          refine g_istore (n := 223) (L' := [(8, gJ v188), (7, gJ 0), (6, gJ 1), (5, gJ 0), (11, gJ 1), (10, gJ v163), (0, gA n0 o), (2, gA n0 ob), (3, gJ c), (4, gJ d), (9, gJ v5)]) X dX0_holds_221 (by decide) rfl rfl ?_
                          refine g_goto (tgt := 268) X dX0_holds_223 (by decide) ?_
                          refine g_iinc (n := 271) (w := v5 + 1) (L' := [(9, gJ (v5 + 1)), (8, gJ v188), (7, gJ 0), (6, gJ 1), (5, gJ 0), (11, gJ 1), (10, gJ v163), (0, gA n0 o), (2, gA n0 ob), (3, gJ c), (4, gJ d)]) X 10 dX0_holds_268 rfl rfl (by decide) rfl rfl ?_
                          refine g_goto (tgt := 15) X dX0_holds_271 (by decide) ?_
                          refine G.sub (L' := [(0, gA n0 o), (2, gA n0 ob), (3, gJ c), (4, gJ d), (5, gJ 0), (6, gJ 1), (7, gJ 0), (8, gJ v188), (9, gJ (v5 + 1))]) [7, 8, 9, 10, 4, 3, 2, 1, 0] rfl ?_
                          exact ih157 0 1 0 v188 (v5 + 1) (by omega) (by omega) (by omega) (by omega) (by omega) (by omega)
                        · refine g_iconst (n := 200) X dX0_holds_199 rfl ?_
                          refine g_goto (tgt := 204) X dX0_holds_200 (by decide) ?_
                          refine g_icmp_eq (n := 207) (tgt := 211) X dX0_holds_204 (by decide) (by omega) (by omega) rfl (fun c189 => ?_) (fun c189 => by exfalso; omega)
                          refine g_iconst (n := 212) X dX0_holds_211 rfl ?_
                          refine g_istore (n := 214) (L' := [(6, gJ 0), (5, gJ 0), (11, gJ 1), (10, gJ v163), (0, gA n0 o), (2, gA n0 ob), (3, gJ c), (4, gJ d), (7, gJ v3), (8, gJ v4), (9, gJ v5)]) X dX0_holds_212 (by decide) rfl rfl ?_
                          refine g_iconst (n := 215) X dX0_holds_214 rfl ?_
                          refine g_istore (n := 217) (L' := [(7, gJ 0), (6, gJ 0), (5, gJ 0), (11, gJ 1), (10, gJ v163), (0, gA n0 o), (2, gA n0 ob), (3, gJ c), (4, gJ d), (8, gJ v4), (9, gJ v5)]) X dX0_holds_215 (by decide) rfl rfl ?_
                          refine g_iload (n := 219) X 9 dX0_holds_217 rfl rfl ?_
                          refine g_iconst (n := 220) X dX0_holds_219 rfl ?_
                          refine g_ishrA (n := 221) X dX0_holds_220 rfl (fun v190 rv190 xv190 => ?_)
                          clear xv190
                          refine g_istore (n := 223) (L' := [(8, gJ v190), (7, gJ 0), (6, gJ 0), (5, gJ 0), (11, gJ 1), (10, gJ v163), (0, gA n0 o), (2, gA n0 ob), (3, gJ c), (4, gJ d), (9, gJ v5)]) X dX0_holds_221 (by decide) rfl rfl ?_
                          refine g_goto (tgt := 268) X dX0_holds_223 (by decide) ?_
                          refine g_iinc (n := 271) (w := v5 + 1) (L' := [(9, gJ (v5 + 1)), (8, gJ v190), (7, gJ 0), (6, gJ 0), (5, gJ 0), (11, gJ 1), (10, gJ v163), (0, gA n0 o), (2, gA n0 ob), (3, gJ c), (4, gJ d)]) X 10 dX0_holds_268 rfl rfl (by decide) rfl rfl ?_
                          refine g_goto (tgt := 15) X dX0_holds_271 (by decide) ?_
                          refine G.sub (L' := [(0, gA n0 o), (2, gA n0 ob), (3, gJ c), (4, gJ d), (5, gJ 0), (6, gJ 0), (7, gJ 0), (8, gJ v190), (9, gJ (v5 + 1))]) [7, 8, 9, 10, 4, 3, 2, 1, 0] rfl ?_
                          exact ih157 0 0 0 v190 (v5 + 1) (by omega) (by omega) (by omega) (by omega) (by omega) (by omega)
                    · refine g_iconst (n := 177) X dX0_holds_176 rfl ?_
                      refine g_goto (tgt := 181) X dX0_holds_177 (by decide) ?_
                      refine g_istore (n := 183) (L' := [(5, gJ 1), (11, gJ 1), (10, gJ v163), (0, gA n0 o), (2, gA n0 ob), (3, gJ c), (4, gJ d), (6, gJ v2), (7, gJ v3), (8, gJ v4), (9, gJ v5)]) X dX0_holds_181 (by decide) rfl rfl ?_
                      refine g_iload (n := 185) X 9 dX0_holds_183 rfl rfl ?_
                      refine g_iconst (n := 186) X dX0_holds_185 rfl ?_
                      refine g_iandC (n := 187) X dX0_holds_186 (by decide) rfl (fun v191 rv191 xv191 => ?_)
                      clear xv191
                      refine g_if_eq (n := 190) (tgt := 211) X dX0_holds_187 (by decide) (by omega) rfl (fun c192 => ?_) (fun c192 => ?_)
                      · refine g_iconst (n := 212) X dX0_holds_211 rfl ?_
                        refine g_istore (n := 214) (L' := [(6, gJ 0), (5, gJ 1), (11, gJ 1), (10, gJ v163), (0, gA n0 o), (2, gA n0 ob), (3, gJ c), (4, gJ d), (7, gJ v3), (8, gJ v4), (9, gJ v5)]) X dX0_holds_212 (by decide) rfl rfl ?_
                        refine g_iconst (n := 215) X dX0_holds_214 rfl ?_
                        refine g_istore (n := 217) (L' := [(7, gJ 0), (6, gJ 0), (5, gJ 1), (11, gJ 1), (10, gJ v163), (0, gA n0 o), (2, gA n0 ob), (3, gJ c), (4, gJ d), (8, gJ v4), (9, gJ v5)]) X dX0_holds_215 (by decide) rfl rfl ?_
                        refine g_iload (n := 219) X 9 dX0_holds_217 rfl rfl ?_
                        refine g_iconst (n := 220) X dX0_holds_219 rfl ?_
                        refine g_ishrA (n := 221) X dX0_holds_220 rfl (fun v193 rv193 xv193 => ?_)
                        clear xv193
                        refine g_istore (n := 223) (L' := [(8, gJ v193), (7, gJ 0), (6, gJ 0), (5, gJ 1), (11, gJ 1), (10, gJ v163), (0, gA n0 o), (2, gA n0 ob), (3, gJ c), (4, gJ d), (9, gJ v5)]) X dX0_holds_221 (by decide) rfl rfl ?_
                        refine g_goto (tgt := 268) X dX0_holds_223 (by decide) ?_
                        refine g_iinc (n := 271) (w := v5 + 1) (L' := [(9, gJ (v5 + 1)), (8, gJ v193), (7, gJ 0), (6, gJ 0), (5, gJ 1), (11, gJ 1), (10, gJ v163), (0, gA n0 o), (2, gA n0 ob), (3, gJ c), (4, gJ d)]) X 10 dX0_holds_268 rfl rfl (by decide) rfl rfl ?_
                        refine g_goto (tgt := 15) X dX0_holds_271 (by decide) ?_
                        refine G.sub (L' := [(0, gA n0 o), (2, gA n0 ob), (3, gJ c), (4, gJ d), (5, gJ 1), (6, gJ 0), (7, gJ 0), (8, gJ v193), (9, gJ (v5 + 1))]) [7, 8, 9, 10, 4, 3, 2, 1, 0] rfl ?_
                        exact ih157 1 0 0 v193 (v5 + 1) (by omega) (by omega) (by omega) (by omega) (by omega) (by omega)
                      · refine g_iload (n := 192) X 1 dX0_holds_190 rfl rfl ?_
                        refine g_iload (n := 194) X 9 dX0_holds_192 rfl rfl ?_
                        refine g_iconst (n := 195) X dX0_holds_194 rfl ?_
                        refine g_iandC (n := 196) X dX0_holds_195 (by decide) rfl (fun v194 rv194 xv194 => ?_)
                        clear xv194
                        refine g_if_eq (n := 199) (tgt := 203) X dX0_holds_196 (by decide) (by omega) rfl (fun c195 => ?_) (fun c195 => ?_)
                        · refine g_iconst (n := 204) X dX0_holds_203 rfl ?_
                          refine g_icmp_eq (n := 207) (tgt := 211) X dX0_holds_204 (by decide) (by omega) (by omega) rfl (fun c196 => by exfalso; omega) (fun c196 => ?_)
                          refine g_iconst (n := 208) X dX0_holds_207 rfl ?_
                          refine g_goto (tgt := 212) X dX0_holds_208 (by decide) ?_
                          refine g_istore (n := 214) (L' := [(6, gJ 1), (5, gJ 1), (11, gJ 1), (10, gJ v163), (0, gA n0 o), (2, gA n0 ob), (3, gJ c), (4, gJ d), (7, gJ v3), (8, gJ v4), (9, gJ v5)]) X dX0_holds_212 (by decide) rfl rfl ?_
                          refine g_iconst (n := 215) X dX0_holds_214 rfl ?_
                          refine g_istore (n := 217) (L' := [(7, gJ 0), (6, gJ 1), (5, gJ 1), (11, gJ 1), (10, gJ v163), (0, gA n0 o), (2, gA n0 ob), (3, gJ c), (4, gJ d), (8, gJ v4), (9, gJ v5)]) X dX0_holds_215 (by decide) rfl rfl ?_
                          refine g_iload (n := 219) X 9 dX0_holds_217 rfl rfl ?_
                          refine g_iconst (n := 220) X dX0_holds_219 rfl ?_
                          refine g_ishrA (n := 221) X dX0_holds_220 rfl (fun v197 rv197 xv197 => ?_)
                          clear xv197
                          refine g_istore (n := 223) (L' := [(8, gJ v197), (7, gJ 0), (6, gJ 1), (5, gJ 1), (11, gJ 1), (10, gJ v163), (0, gA n0 o), (2, gA n0 ob), (3, gJ c), (4, gJ d), (9, gJ v5)]) X dX0_holds_221 (by decide) rfl rfl ?_
                          refine g_goto (tgt := 268) X dX0_holds_223 (by decide) ?_
                          refine g_iinc (n := 271) (w := v5 + 1) (L' := [(9, gJ (v5 + 1)), (8, gJ v197), (7, gJ 0), (6, gJ 1), (5, gJ 1), (11, gJ 1), (10, gJ v163), (0, gA n0 o), (2, gA n0 ob), (3, gJ c), (4, gJ d)]) X 10 dX0_holds_268 rfl rfl (by decide) rfl rfl ?_
                          refine g_goto (tgt := 15) X dX0_holds_271 (by decide) ?_
                          refine G.sub (L' := [(0, gA n0 o), (2, gA n0 ob), (3, gJ c), (4, gJ d), (5, gJ 1), (6, gJ 1), (7, gJ 0), (8, gJ v197), (9, gJ (v5 + 1))]) [7, 8, 9, 10, 4, 3, 2, 1, 0] rfl ?_
                          exact ih157 1 1 0 v197 (v5 + 1) (by omega) (by omega) (by omega) (by omega) (by omega) (by omega)
                        · refine g_iconst (n := 200) X dX0_holds_199 rfl ?_
                          refine g_goto (tgt := 204) X dX0_holds_200 (by decide) ?_
                          refine g_icmp_eq (n := 207) (tgt := 211) X dX0_holds_204 (by decide) (by omega) (by omega) rfl (fun c198 => ?_) (fun c198 => by exfalso; omega)
                          refine g_iconst (n := 212) X dX0_holds_211 rfl ?_
                          refine g_istore (n := 214) (L' := [(6, gJ 0), (5, gJ 1), (11, gJ 1), (10, gJ v163), (0, gA n0 o), (2, gA n0 ob), (3, gJ c), (4, gJ d), (7, gJ v3), (8, gJ v4), (9, gJ v5)]) X dX0_holds_212 (by decide) rfl rfl ?_
                          refine g_iconst (n := 215) X dX0_holds_214 rfl ?_
                          refine g_istore (n := 217) (L' := [(7, gJ 0), (6, gJ 0), (5, gJ 1), (11, gJ 1), (10, gJ v163), (0, gA n0 o), (2, gA n0 ob), (3, gJ c), (4, gJ d), (8, gJ v4), (9, gJ v5)]) X dX0_holds_215 (by decide) rfl rfl ?_
                          refine g_iload (n := 219) X 9 dX0_holds_217 rfl rfl ?_
                          refine g_iconst (n := 220) X dX0_holds_219 rfl ?_
                          refine g_ishrA (n := 221) X dX0_holds_220 rfl (fun v199 rv199 xv199 => ?_)
                          clear xv199
                          refine g_istore (n := 223) (L' := [(8, gJ v199), (7, gJ 0), (6, gJ 0), (5, gJ 1), (11, gJ 1), (10, gJ v163), (0, gA n0 o), (2, gA n0 ob), (3, gJ c), (4, gJ d), (9, gJ v5)]) X dX0_holds_221 (by decide) rfl rfl ?_
                          refine g_goto (tgt := 268) X dX0_holds_223 (by decide) ?_
                          refine g_iinc (n := 271) (w := v5 + 1) (L' := [(9, gJ (v5 + 1)), (8, gJ v199), (7, gJ 0), (6, gJ 0), (5, gJ 1), (11, gJ 1), (10, gJ v163), (0, gA n0 o), (2, gA n0 ob), (3, gJ c), (4, gJ d)]) X 10 dX0_holds_268 rfl rfl (by decide) rfl rfl ?_
                          refine g_goto (tgt := 15) X dX0_holds_271 (by decide) ?_
                          refine G.sub (L' := [(0, gA n0 o), (2, gA n0 ob), (3, gJ c), (4, gJ d), (5, gJ 1), (6, gJ 0), (7, gJ 0), (8, gJ v199), (9, gJ (v5 + 1))]) [7, 8, 9, 10, 4, 3, 2, 1, 0] rfl ?_
                          exact ih157 1 0 0 v199 (v5 + 1) (by omega) (by omega) (by omega) (by omega) (by omega) (by omega)
                  · refine g_iload (n := 159) X 6 dX0_holds_157 rfl rfl ?_
                    refine g_if_eq (n := 162) (tgt := 166) X dX0_holds_159 (by decide) (by omega) rfl (fun c200 => ?_) (fun c200 => ?_)
                    · refine g_iconst (n := 167) X dX0_holds_166 rfl ?_
                      refine g_istore (n := 169) (L' := [(11, gJ 0), (10, gJ v163), (0, gA n0 o), (2, gA n0 ob), (3, gJ c), (4, gJ d), (5, gJ v1), (6, gJ v2), (7, gJ v3), (8, gJ v4), (9, gJ v5)]) X dX0_holds_167 (by decide) rfl rfl ?_
                      refine g_iload (n := 171) X 9 dX0_holds_169 rfl rfl ?_
                      refine g_iconst (n := 172) X dX0_holds_171 rfl ?_
                      refine g_iandC (n := 173) X dX0_holds_172 (by decide) rfl (fun v201 rv201 xv201 => ?_)
                      clear xv201
                      refine g_if_eq (n := 176) (tgt := 180) X dX0_holds_173 (by decide) (by omega) rfl (fun c202 => ?_) (fun c202 => ?_)
                      · refine g_iconst (n := 181) X dX0_holds_180 rfl ?_
                        refine g_istore (n := 183) (L' := [(5, gJ 0), (11, gJ 0), (10, gJ v163), (0, gA n0 o), (2, gA n0 ob), (3, gJ c), (4, gJ d), (6, gJ v2), (7, gJ v3), (8, gJ v4), (9, gJ v5)]) X dX0_holds_181 (by decide) rfl rfl ?_
                        refine g_iload (n := 185) X 9 dX0_holds_183 rfl rfl ?_
                        refine g_iconst (n := 186) X dX0_holds_185 rfl ?_
                        refine g_iandC (n := 187) X dX0_holds_186 (by decide) rfl (fun v203 rv203 xv203 => ?_)
                        clear xv203
                        refine g_if_eq (n := 190) (tgt := 211) X dX0_holds_187 (by decide) (by omega) rfl (fun c204 => ?_) (fun c204 => ?_)
                        · refine g_iconst (n := 212) X dX0_holds_211 rfl ?_
                          refine g_istore (n := 214) (L' := [(6, gJ 0), (5, gJ 0), (11, gJ 0), (10, gJ v163), (0, gA n0 o), (2, gA n0 ob), (3, gJ c), (4, gJ d), (7, gJ v3), (8, gJ v4), (9, gJ v5)]) X dX0_holds_212 (by decide) rfl rfl ?_
                          refine g_iconst (n := 215) X dX0_holds_214 rfl ?_
                          refine g_istore (n := 217) (L' := [(7, gJ 0), (6, gJ 0), (5, gJ 0), (11, gJ 0), (10, gJ v163), (0, gA n0 o), (2, gA n0 ob), (3, gJ c), (4, gJ d), (8, gJ v4), (9, gJ v5)]) X dX0_holds_215 (by decide) rfl rfl ?_
                          refine g_iload (n := 219) X 9 dX0_holds_217 rfl rfl ?_
                          refine g_iconst (n := 220) X dX0_holds_219 rfl ?_
                          refine g_ishrA (n := 221) X dX0_holds_220 rfl (fun v205 rv205 xv205 => ?_)
                          clear xv205
                          refine g_istore (n := 223) (L' := [(8, gJ v205), (7, gJ 0), (6, gJ 0), (5, gJ 0), (11, gJ 0), (10, gJ v163), (0, gA n0 o), (2, gA n0 ob), (3, gJ c), (4, gJ d), (9, gJ v5)]) X dX0_holds_221 (by decide) rfl rfl ?_
                          refine g_goto (tgt := 268) X dX0_holds_223 (by decide) ?_
                          refine g_iinc (n := 271) (w := v5 + 1) (L' := [(9, gJ (v5 + 1)), (8, gJ v205), (7, gJ 0), (6, gJ 0), (5, gJ 0), (11, gJ 0), (10, gJ v163), (0, gA n0 o), (2, gA n0 ob), (3, gJ c), (4, gJ d)]) X 10 dX0_holds_268 rfl rfl (by decide) rfl rfl ?_
                          refine g_goto (tgt := 15) X dX0_holds_271 (by decide) ?_
                          refine G.sub (L' := [(0, gA n0 o), (2, gA n0 ob), (3, gJ c), (4, gJ d), (5, gJ 0), (6, gJ 0), (7, gJ 0), (8, gJ v205), (9, gJ (v5 + 1))]) [7, 8, 9, 10, 4, 3, 2, 1, 0] rfl ?_
                          exact ih157 0 0 0 v205 (v5 + 1) (by omega) (by omega) (by omega) (by omega) (by omega) (by omega)
                        · refine g_iload (n := 192) X 1 dX0_holds_190 rfl rfl ?_
                          refine g_iload (n := 194) X 9 dX0_holds_192 rfl rfl ?_
                          refine g_iconst (n := 195) X dX0_holds_194 rfl ?_
                          refine g_iandC (n := 196) X dX0_holds_195 (by decide) rfl (fun v206 rv206 xv206 => ?_)
                          clear xv206
                          refine g_if_eq (n := 199) (tgt := 203) X dX0_holds_196 (by decide) (by omega) rfl (fun c207 => ?_) (fun c207 => ?_)
                          · refine g_iconst (n := 204) X dX0_holds_203 rfl ?_
                            refine g_icmp_eq (n := 207) (tgt := 211) X dX0_holds_204 (by decide) (by omega) (by omega) rfl (fun c208 => ?_) (fun c208 => by exfalso; omega)
                            refine g_iconst (n := 212) X dX0_holds_211 rfl ?_
                            refine g_istore (n := 214) (L' := [(6, gJ 0), (5, gJ 0), (11, gJ 0), (10, gJ v163), (0, gA n0 o), (2, gA n0 ob), (3, gJ c), (4, gJ d), (7, gJ v3), (8, gJ v4), (9, gJ v5)]) X dX0_holds_212 (by decide) rfl rfl ?_
                            refine g_iconst (n := 215) X dX0_holds_214 rfl ?_
                            refine g_istore (n := 217) (L' := [(7, gJ 0), (6, gJ 0), (5, gJ 0), (11, gJ 0), (10, gJ v163), (0, gA n0 o), (2, gA n0 ob), (3, gJ c), (4, gJ d), (8, gJ v4), (9, gJ v5)]) X dX0_holds_215 (by decide) rfl rfl ?_
                            refine g_iload (n := 219) X 9 dX0_holds_217 rfl rfl ?_
                            refine g_iconst (n := 220) X dX0_holds_219 rfl ?_
                            refine g_ishrA (n := 221) X dX0_holds_220 rfl (fun v209 rv209 xv209 => ?_)
                            clear xv209
                            refine g_istore (n := 223) (L' := [(8, gJ v209), (7, gJ 0), (6, gJ 0), (5, gJ 0), (11, gJ 0), (10, gJ v163), (0, gA n0 o), (2, gA n0 ob), (3, gJ c), (4, gJ d), (9, gJ v5)]) X dX0_holds_221 (by decide) rfl rfl ?_
                            refine g_goto (tgt := 268) X dX0_holds_223 (by decide) ?_
                            refine g_iinc (n := 271) (w := v5 + 1) (L' := [(9, gJ (v5 + 1)), (8, gJ v209), (7, gJ 0), (6, gJ 0), (5, gJ 0), (11, gJ 0), (10, gJ v163), (0, gA n0 o), (2, gA n0 ob), (3, gJ c), (4, gJ d)]) X 10 dX0_holds_268 rfl rfl (by decide) rfl rfl ?_
                            refine g_goto (tgt := 15) X dX0_holds_271 (by decide) ?_
                            refine G.sub (L' := [(0, gA n0 o), (2, gA n0 ob), (3, gJ c), (4, gJ d), (5, gJ 0), (6, gJ 0), (7, gJ 0), (8, gJ v209), (9, gJ (v5 + 1))]) [7, 8, 9, 10, 4, 3, 2, 1, 0] rfl ?_
                            exact ih157 0 0 0 v209 (v5 + 1) (by omega) (by omega) (by omega) (by omega) (by omega) (by omega)
                          · refine g_iconst (n := 200) X dX0_holds_199 rfl ?_
                            refine g_goto (tgt := 204) X dX0_holds_200 (by decide) ?_
                            refine g_icmp_eq (n := 207) (tgt := 211) X dX0_holds_204 (by decide) (by omega) (by omega) rfl (fun c210 => by exfalso; omega) (fun c210 => ?_)
                            refine g_iconst (n := 208) X dX0_holds_207 rfl ?_
                            refine g_goto (tgt := 212) X dX0_holds_208 (by decide) ?_
                            refine g_istore (n := 214) (L' := [(6, gJ 1), (5, gJ 0), (11, gJ 0), (10, gJ v163), (0, gA n0 o), (2, gA n0 ob), (3, gJ c), (4, gJ d), (7, gJ v3), (8, gJ v4), (9, gJ v5)]) X dX0_holds_212 (by decide) rfl rfl ?_
                            refine g_iconst (n := 215) X dX0_holds_214 rfl ?_
                            refine g_istore (n := 217) (L' := [(7, gJ 0), (6, gJ 1), (5, gJ 0), (11, gJ 0), (10, gJ v163), (0, gA n0 o), (2, gA n0 ob), (3, gJ c), (4, gJ d), (8, gJ v4), (9, gJ v5)]) X dX0_holds_215 (by decide) rfl rfl ?_
                            refine g_iload (n := 219) X 9 dX0_holds_217 rfl rfl ?_
                            refine g_iconst (n := 220) X dX0_holds_219 rfl ?_
                            refine g_ishrA (n := 221) X dX0_holds_220 rfl (fun v211 rv211 xv211 => ?_)
                            clear xv211
                            refine g_istore (n := 223) (L' := [(8, gJ v211), (7, gJ 0), (6, gJ 1), (5, gJ 0), (11, gJ 0), (10, gJ v163), (0, gA n0 o), (2, gA n0 ob), (3, gJ c), (4, gJ d), (9, gJ v5)]) X dX0_holds_221 (by decide) rfl rfl ?_
                            refine g_goto (tgt := 268) X dX0_holds_223 (by decide) ?_
                            refine g_iinc (n := 271) (w := v5 + 1) (L' := [(9, gJ (v5 + 1)), (8, gJ v211), (7, gJ 0), (6, gJ 1), (5, gJ 0), (11, gJ 0), (10, gJ v163), (0, gA n0 o), (2, gA n0 ob), (3, gJ c), (4, gJ d)]) X 10 dX0_holds_268 rfl rfl (by decide) rfl rfl ?_
                            refine g_goto (tgt := 15) X dX0_holds_271 (by decide) ?_
                            refine G.sub (L' := [(0, gA n0 o), (2, gA n0 ob), (3, gJ c), (4, gJ d), (5, gJ 0), (6, gJ 1), (7, gJ 0), (8, gJ v211), (9, gJ (v5 + 1))]) [7, 8, 9, 10, 4, 3, 2, 1, 0] rfl ?_
                            exact ih157 0 1 0 v211 (v5 + 1) (by omega) (by omega) (by omega) (by omega) (by omega) (by omega)
                      · refine g_iconst (n := 177) X dX0_holds_176 rfl ?_
                        refine g_goto (tgt := 181) X dX0_holds_177 (by decide) ?_
                        refine g_istore (n := 183) (L' := [(5, gJ 1), (11, gJ 0), (10, gJ v163), (0, gA n0 o), (2, gA n0 ob), (3, gJ c), (4, gJ d), (6, gJ v2), (7, gJ v3), (8, gJ v4), (9, gJ v5)]) X dX0_holds_181 (by decide) rfl rfl ?_
                        refine g_iload (n := 185) X 9 dX0_holds_183 rfl rfl ?_
                        refine g_iconst (n := 186) X dX0_holds_185 rfl ?_
                        refine g_iandC (n := 187) X dX0_holds_186 (by decide) rfl (fun v212 rv212 xv212 => ?_)
                        clear xv212
                        refine g_if_eq (n := 190) (tgt := 211) X dX0_holds_187 (by decide) (by omega) rfl (fun c213 => ?_) (fun c213 => ?_)
                        · refine g_iconst (n := 212) X dX0_holds_211 rfl ?_
                          refine g_istore (n := 214) (L' := [(6, gJ 0), (5, gJ 1), (11, gJ 0), (10, gJ v163), (0, gA n0 o), (2, gA n0 ob), (3, gJ c), (4, gJ d), (7, gJ v3), (8, gJ v4), (9, gJ v5)]) X dX0_holds_212 (by decide) rfl rfl ?_
                          refine g_iconst (n := 215) X dX0_holds_214 rfl ?_
                          refine g_istore (n := 217) (L' := [(7, gJ 0), (6, gJ 0), (5, gJ 1), (11, gJ 0), (10, gJ v163), (0, gA n0 o), (2, gA n0 ob), (3, gJ c), (4, gJ d), (8, gJ v4), (9, gJ v5)]) X dX0_holds_215 (by decide) rfl rfl ?_
                          refine g_iload (n := 219) X 9 dX0_holds_217 rfl rfl ?_
                          refine g_iconst (n := 220) X dX0_holds_219 rfl ?_
                          refine g_ishrA (n := 221) X dX0_holds_220 rfl (fun v214 rv214 xv214 => ?_)
                          clear xv214
                          refine g_istore (n := 223) (L' := [(8, gJ v214), (7, gJ 0), (6, gJ 0), (5, gJ 1), (11, gJ 0), (10, gJ v163), (0, gA n0 o), (2, gA n0 ob), (3, gJ c), (4, gJ d), (9, gJ v5)]) X dX0_holds_221 (by decide) rfl rfl ?_
                          refine g_goto (tgt := 268) X dX0_holds_223 (by decide) ?_
                          refine g_iinc (n := 271) (w := v5 + 1) (L' := [(9, gJ (v5 + 1)), (8, gJ v214), (7, gJ 0), (6, gJ 0), (5, gJ 1), (11, gJ 0), (10, gJ v163), (0, gA n0 o), (2, gA n0 ob), (3, gJ c), (4, gJ d)]) X 10 dX0_holds_268 rfl rfl (by decide) rfl rfl ?_
                          refine g_goto (tgt := 15) X dX0_holds_271 (by decide) ?_
                          refine G.sub (L' := [(0, gA n0 o), (2, gA n0 ob), (3, gJ c), (4, gJ d), (5, gJ 1), (6, gJ 0), (7, gJ 0), (8, gJ v214), (9, gJ (v5 + 1))]) [7, 8, 9, 10, 4, 3, 2, 1, 0] rfl ?_
                          exact ih157 1 0 0 v214 (v5 + 1) (by omega) (by omega) (by omega) (by omega) (by omega) (by omega)
                        · refine g_iload (n := 192) X 1 dX0_holds_190 rfl rfl ?_
                          refine g_iload (n := 194) X 9 dX0_holds_192 rfl rfl ?_
                          refine g_iconst (n := 195) X dX0_holds_194 rfl ?_
                          refine g_iandC (n := 196) X dX0_holds_195 (by decide) rfl (fun v215 rv215 xv215 => ?_)
                          clear xv215
                          refine g_if_eq (n := 199) (tgt := 203) X dX0_holds_196 (by decide) (by omega) rfl (fun c216 => ?_) (fun c216 => ?_)
                          · refine g_iconst (n := 204) X dX0_holds_203 rfl ?_
                            refine g_icmp_eq (n := 207) (tgt := 211) X dX0_holds_204 (by decide) (by omega) (by omega) rfl (fun c217 => ?_) (fun c217 => by exfalso; omega)
                            refine g_iconst (n := 212) X dX0_holds_211 rfl ?_
                            refine g_istore (n := 214) (L' := [(6, gJ 0), (5, gJ 1), (11, gJ 0), (10, gJ v163), (0, gA n0 o), (2, gA n0 ob), (3, gJ c), (4, gJ d), (7, gJ v3), (8, gJ v4), (9, gJ v5)]) X dX0_holds_212 (by decide) rfl rfl ?_
                            refine g_iconst (n := 215) X dX0_holds_214 rfl ?_
                            refine g_istore (n := 217) (L' := [(7, gJ 0), (6, gJ 0), (5, gJ 1), (11, gJ 0), (10, gJ v163), (0, gA n0 o), (2, gA n0 ob), (3, gJ c), (4, gJ d), (8, gJ v4), (9, gJ v5)]) X dX0_holds_215 (by decide) rfl rfl ?_
                            refine g_iload (n := 219) X 9 dX0_holds_217 rfl rfl ?_
                            refine g_iconst (n := 220) X dX0_holds_219 rfl ?_
                            refine g_ishrA (n := 221) X dX0_holds_220 rfl (fun v218 rv218 xv218 => ?_)
                            clear xv218
                            refine g_istore (n := 223) (L' := [(8, gJ v218), (7, gJ 0), (6, gJ 0), (5, gJ 1), (11, gJ 0), (10, gJ v163), (0, gA n0 o), (2, gA n0 ob), (3, gJ c), (4, gJ d), (9, gJ v5)]) X dX0_holds_221 (by decide) rfl rfl ?_
                            refine g_goto (tgt := 268) X dX0_holds_223 (by decide) ?_
                            refine g_iinc (n := 271) (w := v5 + 1) (L' := [(9, gJ (v5 + 1)), (8, gJ v218), (7, gJ 0), (6, gJ 0), (5, gJ 1), (11, gJ 0), (10, gJ v163), (0, gA n0 o), (2, gA n0 ob), (3, gJ c), (4, gJ d)]) X 10 dX0_holds_268 rfl rfl (by decide) rfl rfl ?_
                            refine g_goto (tgt := 15) X dX0_holds_271 (by decide) ?_
                            refine G.sub (L' := [(0, gA n0 o), (2, gA n0 ob), (3, gJ c), (4, gJ d), (5, gJ 1), (6, gJ 0), (7, gJ 0), (8, gJ v218), (9, gJ (v5 + 1))]) [7, 8, 9, 10, 4, 3, 2, 1, 0] rfl ?_
                            exact ih157 1 0 0 v218 (v5 + 1) (by omega) (by omega) (by omega) (by omega) (by omega) (by omega)
                          · refine g_iconst (n := 200) X dX0_holds_199 rfl ?_
                            refine g_goto (tgt := 204) X dX0_holds_200 (by decide) ?_
                            refine g_icmp_eq (n := 207) (tgt := 211) X dX0_holds_204 (by decide) (by omega) (by omega) rfl (fun c219 => by exfalso; omega) (fun c219 => ?_)
                            refine g_iconst (n := 208) X dX0_holds_207 rfl ?_
                            refine g_goto (tgt := 212) X dX0_holds_208 (by decide) ?_
                            refine g_istore (n := 214) (L' := [(6, gJ 1), (5, gJ 1), (11, gJ 0), (10, gJ v163), (0, gA n0 o), (2, gA n0 ob), (3, gJ c), (4, gJ d), (7, gJ v3), (8, gJ v4), (9, gJ v5)]) X dX0_holds_212 (by decide) rfl rfl ?_
                            refine g_iconst (n := 215) X dX0_holds_214 rfl ?_
                            refine g_istore (n := 217) (L' := [(7, gJ 0), (6, gJ 1), (5, gJ 1), (11, gJ 0), (10, gJ v163), (0, gA n0 o), (2, gA n0 ob), (3, gJ c), (4, gJ d), (8, gJ v4), (9, gJ v5)]) X dX0_holds_215 (by decide) rfl rfl ?_
                            refine g_iload (n := 219) X 9 dX0_holds_217 rfl rfl ?_
                            refine g_iconst (n := 220) X dX0_holds_219 rfl ?_
                            refine g_ishrA (n := 221) X dX0_holds_220 rfl (fun v220 rv220 xv220 => ?_)
                            clear xv220
                            refine g_istore (n := 223) (L' := [(8, gJ v220), (7, gJ 0), (6, gJ 1), (5, gJ 1), (11, gJ 0), (10, gJ v163), (0, gA n0 o), (2, gA n0 ob), (3, gJ c), (4, gJ d), (9, gJ v5)]) X dX0_holds_221 (by decide) rfl rfl ?_
                            refine g_goto (tgt := 268) X dX0_holds_223 (by decide) ?_
                            refine g_iinc (n := 271) (w := v5 + 1) (L' := [(9, gJ (v5 + 1)), (8, gJ v220), (7, gJ 0), (6, gJ 1), (5, gJ 1), (11, gJ 0), (10, gJ v163), (0, gA n0 o), (2, gA n0 ob), (3, gJ c), (4, gJ d)]) X 10 dX0_holds_268 rfl rfl (by decide) rfl rfl ?_
                            refine g_goto (tgt := 15) X dX0_holds_271 (by decide) ?_
                            refine G.sub (L' := [(0, gA n0 o), (2, gA n0 ob), (3, gJ c), (4, gJ d), (5, gJ 1), (6, gJ 1), (7, gJ 0), (8, gJ v220), (9, gJ (v5 + 1))]) [7, 8, 9, 10, 4, 3, 2, 1, 0] rfl ?_
                            exact ih157 1 1 0 v220 (v5 + 1) (by omega) (by omega) (by omega) (by omega) (by omega) (by omega)
                    · refine g_iconst (n := 163) X dX0_holds_162 rfl ?_
                      refine g_goto (tgt := 167) X dX0_holds_163 (by decide) ?_
                      refine g_istore (n := 169) (L' := [(11, gJ 1), (10, gJ v163), (0, gA n0 o), (2, gA n0 ob), (3, gJ c), (4, gJ d), (5, gJ v1), (6, gJ v2), (7, gJ v3), (8, gJ v4), (9, gJ v5)]) X dX0_holds_167 (by decide) rfl rfl ?_
                      refine g_iload (n := 171) X 9 dX0_holds_169 rfl rfl ?_
                      refine g_iconst (n := 172) X dX0_holds_171 rfl ?_
                      refine g_iandC (n := 173) X dX0_holds_172 (by decide) rfl (fun v221 rv221 xv221 => ?_)
                      clear xv221
                      refine g_if_eq (n := 176) (tgt := 180) X dX0_holds_173 (by decide) (by omega) rfl (fun c222 => ?_) (fun c222 => ?_)
                      · refine g_iconst (n := 181) X dX0_holds_180 rfl ?_
                        refine g_istore (n := 183) (L' := [(5, gJ 0), (11, gJ 1), (10, gJ v163), (0, gA n0 o), (2, gA n0 ob), (3, gJ c), (4, gJ d), (6, gJ v2), (7, gJ v3), (8, gJ v4), (9, gJ v5)]) X dX0_holds_181 (by decide) rfl rfl ?_
                        refine g_iload (n := 185) X 9 dX0_holds_183 rfl rfl ?_
                        refine g_iconst (n := 186) X dX0_holds_185 rfl ?_
                        refine g_iandC (n := 187) X dX0_holds_186 (by decide) rfl (fun v223 rv223 xv223 => ?_)
                        clear xv223
                        refine g_if_eq (n := 190) (tgt := 211) X dX0_holds_187 (by decide) (by omega) rfl (fun c224 => ?_) (fun c224 => ?_)
                        · refine g_iconst (n := 212) X dX0_holds_211 rfl ?_
                          refine g_istore (n := 214) (L' := [(6, gJ 0), (5, gJ 0), (11, gJ 1), (10, gJ v163), (0, gA n0 o), (2, gA n0 ob), (3, gJ c), (4, gJ d), (7, gJ v3), (8, gJ v4), (9, gJ v5)]) X dX0_holds_212 (by decide) rfl rfl ?_
                          refine g_iconst (n := 215) X dX0_holds_214 rfl ?_
                          refine g_istore (n := 217) (L' := [(7, gJ 0), (6, gJ 0), (5, gJ 0), (11, gJ 1), (10, gJ v163), (0, gA n0 o), (2, gA n0 ob), (3, gJ c), (4, gJ d), (8, gJ v4), (9, gJ v5)]) X dX0_holds_215 (by decide) rfl rfl ?_
                          refine g_iload (n := 219) X 9 dX0_holds_217 rfl rfl ?_
                          refine g_iconst (n := 220) X dX0_holds_219 rfl ?_
                          refine g_ishrA (n := 221) X dX0_holds_220 rfl (fun v225 rv225 xv225 => ?_)
                          clear xv225
                          refine g_istore (n := 223) (L' := [(8, gJ v225), (7, gJ 0), (6, gJ 0), (5, gJ 0), (11, gJ 1), (10, gJ v163), (0, gA n0 o), (2, gA n0 ob), (3, gJ c), (4, gJ d), (9, gJ v5)]) X dX0_holds_221 (by decide) rfl rfl ?_
                          refine g_goto (tgt := 268) X dX0_holds_223 (by decide) ?_
                          refine g_iinc (n := 271) (w := v5 + 1) (L' := [(9, gJ (v5 + 1)), (8, gJ v225), (7, gJ 0), (6, gJ 0), (5, gJ 0), (11, gJ 1), (10, gJ v163), (0, gA n0 o), (2, gA n0 ob), (3, gJ c), (4, gJ d)]) X 10 dX0_holds_268 rfl rfl (by decide) rfl rfl ?_
                          refine g_goto (tgt := 15) X dX0_holds_271 (by decide) ?_
                          refine G.sub (L' := [(0, gA n0 o), (2, gA n0 ob), (3, gJ c), (4, gJ d), (5, gJ 0), (6, gJ 0), (7, gJ 0), (8, gJ v225), (9, gJ (v5 + 1))]) [7, 8, 9, 10, 4, 3, 2, 1, 0] rfl ?_
                          exact ih157 0 0 0 v225 (v5 + 1) (by omega) (by omega) (by omega) (by omega) (by omega) (by omega)
                        · refine g_iload (n := 192) X 1 dX0_holds_190 rfl rfl ?_
                          refine g_iload (n := 194) X 9 dX0_holds_192 rfl rfl ?_
                          refine g_iconst (n := 195) X dX0_holds_194 rfl ?_
                          refine g_iandC (n := 196) X dX0_holds_195 (by decide) rfl (fun v226 rv226 xv226 => ?_)
                          clear xv226
                          refine g_if_eq (n := 199) (tgt := 203) X dX0_holds_196 (by decide) (by omega) rfl (fun c227 => ?_) (fun c227 => ?_)
                          · refine g_iconst (n := 204) X dX0_holds_203 rfl ?_
                            refine g_icmp_eq (n := 207) (tgt := 211) X dX0_holds_204 (by decide) (by omega) (by omega) rfl (fun c228 => by exfalso; omega) (fun c228 => ?_)
                            refine g_iconst (n := 208) X dX0_holds_207 rfl ?_
                            refine g_goto (tgt := 212) X dX0_holds_208 (by decide) ?_
                            refine g_istore (n := 214) (L' := [(6, gJ 1), (5, gJ 0), (11, gJ 1), (10, gJ v163), (0, gA n0 o), (2, gA n0 ob), (3, gJ c), (4, gJ d), (7, gJ v3), (8, gJ v4), (9, gJ v5)]) X dX0_holds_212 (by decide) rfl rfl ?_
                            refine g_iconst (n := 215) X dX0_holds_214 rfl ?_
                            refine g_istore (n := 217) (L' := [(7, gJ 0), (6, gJ 1), (5, gJ 0), (11, gJ 1), (10, gJ v163), (0, gA n0 o), (2, gA n0 ob), (3, gJ c), (4, gJ d), (8, gJ v4), (9, gJ v5)]) X dX0_holds_215 (by decide) rfl rfl ?_
                            refine g_iload (n := 219) X 9 dX0_holds_217 rfl rfl ?_
                            refine g_iconst (n := 220) X dX0_holds_219 rfl ?_
                            refine g_ishrA (n := 221) X dX0_holds_220 rfl (fun v229 rv229 xv229 => ?_)
                            clear xv229
                            refine g_istore (n := 223) (L' := [(8, gJ v229), (7, gJ 0), (6, gJ 1), (5, gJ 0), (11, gJ 1), (10, gJ v163), (0, gA n0 o), (2, gA n0 ob), (3, gJ c), (4, gJ d), (9, gJ v5)]) X dX0_holds_221 (by decide) rfl rfl ?_
                            refine g_goto (tgt := 268) X dX0_holds_223 (by decide) ?_
                            refine g_iinc (n := 271) (w := v5 + 1) (L' := [(9, gJ (v5 + 1)), (8, gJ v229), (7, gJ 0), (6, gJ 1), (5, gJ 0), (11, gJ 1), (10, gJ v163), (0, gA n0 o), (2, gA n0 ob), (3, gJ c), (4, gJ d)]) X 10 dX0_holds_268 rfl rfl (by decide) rfl rfl ?_
                            refine g_goto (tgt := 15) X dX0_holds_271 (by decide) ?_
                            refine G.sub (L' := [(0, gA n0 o), (2, gA n0 ob), (3, gJ c), (4, gJ d), (5, gJ 0), (6, gJ 1), (7, gJ 0), (8, gJ v229), (9, gJ (v5 + 1))]) [7, 8, 9, 10, 4, 3, 2, 1, 0] rfl ?_
                            exact ih157 0 1 0 v229 (v5 + 1) (by omega) (by omega) (by omega) (by omega) (by omega) (by omega)
                          · refine g_iconst (n := 200) X dX0_holds_199 rfl ?_
                            refine g_goto (tgt := 204) X dX0_holds_200 (by decide) ?_
                            refine g_icmp_eq (n := 207) (tgt := 211) X dX0_holds_204 (by decide) (by omega) (by omega) rfl (fun c230 => ?_) (fun c230 => by exfalso; omega)
                            refine g_iconst (n := 212) X dX0_holds_211 rfl ?_
                            refine g_istore (n := 214) (L' := [(6, gJ 0), (5, gJ 0), (11, gJ 1), (10, gJ v163), (0, gA n0 o), (2, gA n0 ob), (3, gJ c), (4, gJ d), (7, gJ v3), (8, gJ v4), (9, gJ v5)]) X dX0_holds_212 (by decide) rfl rfl ?_
                            refine g_iconst (n := 215) X dX0_holds_214 rfl ?_
                            refine g_istore (n := 217) (L' := [(7, gJ 0), (6, gJ 0), (5, gJ 0), (11, gJ 1), (10, gJ v163), (0, gA n0 o), (2, gA n0 ob), (3, gJ c), (4, gJ d), (8, gJ v4), (9, gJ v5)]) X dX0_holds_215 (by decide) rfl rfl ?_
                            refine g_iload (n := 219) X 9 dX0_holds_217 rfl rfl ?_
                            refine g_iconst (n := 220) X dX0_holds_219 rfl ?_
                            refine g_ishrA (n := 221) X dX0_holds_220 rfl (fun v231 rv231 xv231 => ?_)
                            clear xv231
                            refine g_istore (n := 223) (L' := [(8, gJ v231), (7, gJ 0), (6, gJ 0), (5, gJ 0), (11, gJ 1), (10, gJ v163), (0, gA n0 o), (2, gA n0 ob), (3, gJ c), (4, gJ d), (9, gJ v5)]) X dX0_holds_221 (by decide) rfl rfl ?_
                            refine g_goto (tgt := 268) X dX0_holds_223 (by decide) ?_
                            refine g_iinc (n := 271) (w := v5 + 1) (L' := [(9, gJ (v5 + 1)), (8, gJ v231), (7, gJ 0), (6, gJ 0), (5, gJ 0), (11, gJ 1), (10, gJ v163), (0, gA n0 o), (2, gA n0 ob), (3, gJ c), (4, gJ d)]) X 10 dX0_holds_268 rfl rfl (by decide) rfl rfl ?_
                            refine g_goto (tgt := 15) X dX0_holds_271 (by decide) ?_
                            refine G.sub (L' := [(0, gA n0 o), (2, gA n0 ob), (3, gJ c), (4, gJ d), (5, gJ 0), (6, gJ 0), (7, gJ 0), (8, gJ v231), (9, gJ (v5 + 1))]) [7, 8, 9, 10, 4, 3, 2, 1, 0] rfl ?_
                            exact ih157 0 0 0 v231 (v5 + 1) (by omega) (by omega) (by omega) (by omega) (by omega) (by omega)
                      · refine g_iconst (n := 177) X dX0_holds_176 rfl ?_
                        refine g_goto (tgt := 181) X dX0_holds_177 (by decide) ?_
                        refine g_istore (n := 183) (L' := [(5, gJ 1), (11, gJ 1), (10, gJ v163), (0, gA n0 o), (2, gA n0 ob), (3, gJ c), (4, gJ d), (6, gJ v2), (7, gJ v3), (8, gJ v4), (9, gJ v5)]) X dX0_holds_181 (by decide) rfl rfl ?_
                        refine g_iload (n := 185) X 9 dX0_holds_183 rfl rfl ?_
                        refine g_iconst (n := 186) X dX0_holds_185 rfl ?_
                        refine g_iandC (n := 187) X dX0_holds_186 (by decide) rfl (fun v232 rv232 xv232 => ?_)
                        clear xv232
                        refine g_if_eq (n := 190) (tgt := 211) X dX0_holds_187 (by decide) (by omega) rfl (fun c233 => ?_) (fun c233 => ?_)
                        · refine g_iconst (n := 212) X dX0_holds_211 rfl ?_
                          refine g_istore (n := 214) (L' := [(6, gJ 0), (5, gJ 1), (11, gJ 1), (10, gJ v163), (0, gA n0 o), (2, gA n0 ob), (3, gJ c), (4, gJ d), (7, gJ v3), (8, gJ v4), (9, gJ v5)]) X dX0_holds_212 (by decide) rfl rfl ?_
                          refine g_iconst (n := 215) X dX0_holds_214 rfl ?_
                          refine g_istore (n := 217) (L' := [(7, gJ 0), (6, gJ 0), (5, gJ 1), (11, gJ 1), (10, gJ v163), (0, gA n0 o), (2, gA n0 ob), (3, gJ c), (4, gJ d), (8, gJ v4), (9, gJ v5)]) X dX0_holds_215 (by decide) rfl rfl ?_
                          refine g_iload (n := 219) X 9 dX0_holds_217 rfl rfl ?_
                          refine g_iconst (n := 220) X dX0_holds_219 rfl ?_
                          refine g_ishrA (n := 221) X dX0_holds_220 rfl (fun v234 rv234 xv234 => ?_)
                          clear xv234
                          refine g_istore (n := 223) (L' := [(8, gJ v234), (7, gJ 0), (6, gJ 0), (5, gJ 1), (11, gJ 1), (10, gJ v163), (0, gA n0 o), (2, gA n0 ob), (3, gJ c), (4, gJ d), (9, gJ v5)]) X dX0_holds_221 (by decide) rfl rfl ?_
                          refine g_goto (tgt := 268) X dX0_holds_223 (by decide) ?_
                          refine g_iinc (n := 271) (w := v5 + 1) (L' := [(9, gJ (v5 + 1)), (8, gJ v234), (7, gJ 0), (6, gJ 0), (5, gJ 1), (11, gJ 1), (10, gJ v163), (0, gA n0 o), (2, gA n0 ob), (3, gJ c), (4, gJ d)]) X 10 dX0_holds_268 rfl rfl (by decide) rfl rfl ?_
                          refine g_goto (tgt := 15) X dX0_holds_271 (by decide) ?_
                          refine G.sub (L' := [(0, gA n0 o), (2, gA n0 ob), (3, gJ c), (4, gJ d), (5, gJ 1), (6, gJ 0), (7, gJ 0), (8, gJ v234), (9, gJ (v5 + 1))]) [7, 8, 9, 10, 4, 3, 2, 1, 0] rfl ?_
                          exact ih157 1 0 0 v234 (v5 + 1) (by omega) (by omega) (by omega) (by omega) (by omega) (by omega)
                        · refine g_iload (n := 192) X 1 dX0_holds_190 rfl rfl ?_
                          refine g_iload (n := 194) X 9 dX0_holds_192 rfl rfl ?_
                          refine g_iconst (n := 195) X dX0_holds_194 rfl ?_
                          refine g_iandC (n := 196) X dX0_holds_195 (by decide) rfl (fun v235 rv235 xv235 => ?_)
                          clear xv235
                          refine g_if_eq (n := 199) (tgt := 203) X dX0_holds_196 (by decide) (by omega) rfl (fun c236 => ?_) (fun c236 => ?_)
                          · refine g_iconst (n := 204) X dX0_holds_203 rfl ?_
                            refine g_icmp_eq (n := 207) (tgt := 211) X dX0_holds_204 (by decide) (by omega) (by omega) rfl (fun c237 => by exfalso; omega) (fun c237 => ?_)
                            refine g_iconst (n := 208) X dX0_holds_207 rfl ?_
                            refine g_goto (tgt := 212) X dX0_holds_208 (by decide) ?_
                            refine g_istore (n := 214) (L' := [(6, gJ 1), (5, gJ 1), (11, gJ 1), (10, gJ v163), (0, gA n0 o), (2, gA n0 ob), (3, gJ c), (4, gJ d), (7, gJ v3), (8, gJ v4), (9, gJ v5)]) X dX0_holds_212 (by decide) rfl rfl ?_
                            refine g_iconst (n := 215) X dX0_holds_214 rfl ?_
                            refine g_istore (n := 217) (L' := [(7, gJ 0), (6, gJ 1), (5, gJ 1), (11, gJ 1), (10, gJ v163), (0, gA n0 o), (2, gA n0 ob), (3, gJ c), (4, gJ d), (8, gJ v4), (9, gJ v5)]) X dX0_holds_215 (by decide) rfl rfl ?_
                            refine g_iload (n := 219) X 9 dX0_holds_217 rfl rfl ?_
                            refine g_iconst (n := 220) X dX0_holds_219 rfl ?_
                            refine g_ishrA (n := 221) X dX0_holds_220 rfl (fun v238 rv238 xv238 => ?_)
                            clear xv238
                            refine g_istore (n := 223) (L' := [(8, gJ v238), (7, gJ 0), (6, gJ 1), (5, gJ 1), (11, gJ 1), (10, gJ v163), (0, gA n0 o), (2, gA n0 ob), (3, gJ c), (4, gJ d), (9, gJ v5)]) X dX0_holds_221 (by decide) rfl rfl ?_
                            refine g_goto (tgt := 268) X dX0_holds_223 (by decide) ?_
                            refine g_iinc (n := 271) (w := v5 + 1) (L' := [(9, gJ (v5 + 1)), (8, gJ v238), (7, gJ 0), (6, gJ 1), (5, gJ 1), (11, gJ 1), (10, gJ v163), (0, gA n0 o), (2, gA n0 ob), (3, gJ c), (4, gJ d)]) X 10 dX0_holds_268 rfl rfl (by decide) rfl rfl ?_
                            refine g_goto (tgt := 15) X dX0_holds_271 (by decide) ?_
                            refine G.sub (L' := [(0, gA n0 o), (2, gA n0 ob), (3, gJ c), (4, gJ d), (5, gJ 1), (6, gJ 1), (7, gJ 0), (8, gJ v238), (9, gJ (v5 + 1))]) [7, 8, 9, 10, 4, 3, 2, 1, 0] rfl ?_
                            exact ih157 1 1 0 v238 (v5 + 1) (by omega) (by omega) (by omega) (by omega) (by omega) (by omega)
                          · refine g_iconst (n := 200) X dX0_holds_199 rfl ?_
                            refine g_goto (tgt := 204) X dX0_holds_200 (by decide) ?_
                            refine g_icmp_eq (n := 207) (tgt := 211) X dX0_holds_204 (by decide) (by omega) (by omega) rfl (fun c239 => ?_) (fun c239 => by exfalso; omega)
                            refine g_iconst (n := 212) X dX0_holds_211 rfl ?_
                            refine g_istore (n := 214) (L' := [(6, gJ 0), (5, gJ 1), (11, gJ 1), (10, gJ v163), (0, gA n0 o), (2, gA n0 ob), (3, gJ c), (4, gJ d), (7, gJ v3), (8, gJ v4), (9, gJ v5)]) X dX0_holds_212 (by decide) rfl rfl ?_
                            refine g_iconst (n := 215) X dX0_holds_214 rfl ?_
                            refine g_istore (n := 217) (L' := [(7, gJ 0), (6, gJ 0), (5, gJ 1), (11, gJ 1), (10, gJ v163), (0, gA n0 o), (2, gA n0 ob), (3, gJ c), (4, gJ d), (8, gJ v4), (9, gJ v5)]) X dX0_holds_215 (by decide) rfl rfl ?_
                            refine g_iload (n := 219) X 9 dX0_holds_217 rfl rfl ?_
                            refine g_iconst (n := 220) X dX0_holds_219 rfl ?_
                            refine g_ishrA (n := 221) X dX0_holds_220 rfl (fun v240 rv240 xv240 => ?_)
                            clear xv240
                            refine g_istore (n := 223) (L' := [(8, gJ v240), (7, gJ 0), (6, gJ 0), (5, gJ 1), (11, gJ 1), (10, gJ v163), (0, gA n0 o), (2, gA n0 ob), (3, gJ c), (4, gJ d), (9, gJ v5)]) X dX0_holds_221 (by decide) rfl rfl ?_
                            refine g_goto (tgt := 268) X dX0_holds_223 (by decide) ?_
                            refine g_iinc (n := 271) (w := v5 + 1) (L' := [(9, gJ (v5 + 1)), (8, gJ v240), (7, gJ 0), (6, gJ 0), (5, gJ 1), (11, gJ 1), (10, gJ v163), (0, gA n0 o), (2, gA n0 ob), (3, gJ c), (4, gJ d)]) X 10 dX0_holds_268 rfl rfl (by decide) rfl rfl ?_
                            refine g_goto (tgt := 15) X dX0_holds_271 (by decide) ?_
                            refine G.sub (L' := [(0, gA n0 o), (2, gA n0 ob), (3, gJ c), (4, gJ d), (5, gJ 1), (6, gJ 0), (7, gJ 0), (8, gJ v240), (9, gJ (v5 + 1))]) [7, 8, 9, 10, 4, 3, 2, 1, 0] rfl ?_
                            exact ih157 1 0 0 v240 (v5 + 1) (by omega) (by omega) (by omega) (by omega) (by omega) (by omega)
              · refine g_iload (n := 96) X 8 dX0_holds_94 rfl rfl ?_
                refine g_iconst (n := 97) X dX0_holds_96 rfl ?_
                refine g_ishlA (n := 98) X dX0_holds_97 rfl (fun v241 rv241 xv241 => ?_)
                clear xv241
                refine g_iload (n := 100) X 5 dX0_holds_98 rfl rfl ?_
                refine g_if_eq (n := 103) (tgt := 107) X dX0_holds_100 (by decide) (by omega) rfl (fun c242 => ?_) (fun c242 => ?_)
                · refine g_iconst (n := 108) X dX0_holds_107 rfl ?_
                  refine g_iorE (n := 109) (z := v241) X dX0_holds_108 (gi_or0 _) rfl ?_
                  refine g_iload (n := 111) X 6 dX0_holds_109 rfl rfl ?_
                  refine g_if_eq (n := 114) (tgt := 118) X dX0_holds_111 (by decide) (by omega) rfl (fun c243 => ?_) (fun c243 => ?_)
                  · refine g_iconst (n := 119) X dX0_holds_118 rfl ?_
                    refine g_iorE (n := 120) (z := v241) X dX0_holds_119 (gi_or0 _) rfl ?_
                    refine g_iload (n := 122) X 7 dX0_holds_120 rfl rfl ?_
                    refine g_if_eq (n := 125) (tgt := 129) X dX0_holds_122 (by decide) (by omega) rfl (fun c244 => ?_) (fun c244 => ?_)
                    · refine g_iconst (n := 130) X dX0_holds_129 rfl ?_
                      refine g_iorE (n := 131) (z := v241) X dX0_holds_130 (gi_or0 _) rfl ?_
                      refine g_istore (n := 133) (L' := [(8, gJ v241), (10, gJ v163), (0, gA n0 o), (2, gA n0 ob), (3, gJ c), (4, gJ d), (5, gJ v1), (6, gJ v2), (7, gJ v3), (9, gJ v5)]) X dX0_holds_131 (by decide) rfl rfl ?_
                      refine g_iconst (n := 134) X dX0_holds_133 rfl ?_
                      refine g_istore (n := 136) (L' := [(5, gJ 0), (8, gJ v241), (10, gJ v163), (0, gA n0 o), (2, gA n0 ob), (3, gJ c), (4, gJ d), (6, gJ v2), (7, gJ v3), (9, gJ v5)]) X dX0_holds_134 (by decide) rfl rfl ?_
                      refine g_iconst (n := 137) X dX0_holds_136 rfl ?_
                      refine g_istore (n := 139) (L' := [(6, gJ 1), (5, gJ 0), (8, gJ v241), (10, gJ v163), (0, gA n0 o), (2, gA n0 ob), (3, gJ c), (4, gJ d), (7, gJ v3), (9, gJ v5)]) X dX0_holds_137 (by decide) rfl rfl ?_
                      refine g_iconst (n := 140) X dX0_holds_139 rfl ?_
                      refine g_istore (n := 142) (L' := [(7, gJ 0), (6, gJ 1), (5, gJ 0), (8, gJ v241), (10, gJ v163), (0, gA n0 o), (2, gA n0 ob), (3, gJ c), (4, gJ d), (9, gJ v5)]) X dX0_holds_140 (by decide) rfl rfl ?_
                      refine g_goto (tgt := 268) X dX0_holds_142 (by decide) ?_
                      refine g_iinc (n := 271) (w := v5 + 1) (L' := [(9, gJ (v5 + 1)), (7, gJ 0), (6, gJ 1), (5, gJ 0), (8, gJ v241), (10, gJ v163), (0, gA n0 o), (2, gA n0 ob), (3, gJ c), (4, gJ d)]) X 9 dX0_holds_268 rfl rfl (by decide) rfl rfl ?_
                      refine g_goto (tgt := 15) X dX0_holds_271 (by decide) ?_
                      refine G.sub (L' := [(0, gA n0 o), (2, gA n0 ob), (3, gJ c), (4, gJ d), (5, gJ 0), (6, gJ 1), (7, gJ 0), (8, gJ v241), (9, gJ (v5 + 1))]) [6, 7, 8, 9, 3, 2, 1, 4, 0] rfl ?_
                      exact ih157 0 1 0 v241 (v5 + 1) (by omega) (by omega) (by omega) (by omega) (by omega) (by omega)
                    · refine g_iconst (n := 126) X dX0_holds_125 rfl ?_
                      refine g_goto (tgt := 130) X dX0_holds_126 (by decide) ?_
                      refine g_iorA (n := 131) X dX0_holds_130 rfl (fun v245 rv245 xv245 => ?_)
                      clear xv245
                      refine g_istore (n := 133) (L' := [(8, gJ v245), (10, gJ v163), (0, gA n0 o), (2, gA n0 ob), (3, gJ c), (4, gJ d), (5, gJ v1), (6, gJ v2), (7, gJ v3), (9, gJ v5)]) X dX0_holds_131 (by decide) rfl rfl ?_
                      refine g_iconst (n := 134) X dX0_holds_133 rfl ?_
                      refine g_istore (n := 136) (L' := [(5, gJ 0), (8, gJ v245), (10, gJ v163), (0, gA n0 o), (2, gA n0 ob), (3, gJ c), (4, gJ d), (6, gJ v2), (7, gJ v3), (9, gJ v5)]) X dX0_holds_134 (by decide) rfl rfl ?_
                      refine g_iconst (n := 137) X dX0_holds_136 rfl ?_
                      refine g_istore (n := 139) (L' := [(6, gJ 1), (5, gJ 0), (8, gJ v245), (10, gJ v163), (0, gA n0 o), (2, gA n0 ob), (3, gJ c), (4, gJ d), (7, gJ v3), (9, gJ v5)]) X dX0_holds_137 (by decide) rfl rfl ?_
                      refine g_iconst (n := 140) X dX0_holds_139 rfl ?_
                      refine g_istore (n := 142) (L' := [(7, gJ 0), (6, gJ 1), (5, gJ 0), (8, gJ v245), (10, gJ v163), (0, gA n0 o), (2, gA n0 ob), (3, gJ c), (4, gJ d), (9, gJ v5)]) X dX0_holds_140 (by decide) rfl rfl ?_
                      refine g_goto (tgt := 268) X dX0_holds_142 (by decide) ?_
                      refine g_iinc (n := 271) (w := v5 + 1) (L' := [(9, gJ (v5 + 1)), (7, gJ 0), (6, gJ 1), (5, gJ 0), (8, gJ v245), (10, gJ v163), (0, gA n0 o), (2, gA n0 ob), (3, gJ c), (4, gJ d)]) X 9 dX0_holds_268 rfl rfl (by decide) rfl rfl ?_
                      refine g_goto (tgt := 15) X dX0_holds_271 (by decide) ?_
                      refine G.sub (L' := [(0, gA n0 o), (2, gA n0 ob), (3, gJ c), (4, gJ d), (5, gJ 0), (6, gJ 1), (7, gJ 0), (8, gJ v245), (9, gJ (v5 + 1))]) [6, 7, 8, 9, 3, 2, 1, 4, 0] rfl ?_
                      exact ih157 0 1 0 v245 (v5 + 1) (by omega) (by omega) (by omega) (by omega) (by omega) (by omega)
                  · refine g_iconst (n := 115) X dX0_holds_114 rfl ?_
                    refine g_goto (tgt := 119) X dX0_holds_115 (by decide) ?_
                    refine g_iorA (n := 120) X dX0_holds_119 rfl (fun v246 rv246 xv246 => ?_)
                    clear xv246
                    refine g_iload (n := 122) X 7 dX0_holds_120 rfl rfl ?_
                    refine g_if_eq (n := 125) (tgt := 129) X dX0_holds_122 (by decide) (by omega) rfl (fun c247 => ?_) (fun c247 => ?_)
                    · refine g_iconst (n := 130) X dX0_holds_129 rfl ?_
                      refine g_iorE (n := 131) (z := v246) X dX0_holds_130 (gi_or0 _) rfl ?_
                      refine g_istore (n := 133) (L' := [(8, gJ v246), (10, gJ v163), (0, gA n0 o), (2, gA n0 ob), (3, gJ c), (4, gJ d), (5, gJ v1), (6, gJ v2), (7, gJ v3), (9, gJ v5)]) X dX0_holds_131 (by decide) rfl rfl ?_
                      refine g_iconst (n := 134) X dX0_holds_133 rfl ?_
                      refine g_istore (n := 136) (L' := [(5, gJ 0), (8, gJ v246), (10, gJ v163), (0, gA n0 o), (2, gA n0 ob), (3, gJ c), (4, gJ d), (6, gJ v2), (7, gJ v3), (9, gJ v5)]) X dX0_holds_134 (by decide) rfl rfl ?_
                      refine g_iconst (n := 137) X dX0_holds_136 rfl ?_
                      refine g_istore (n := 139) (L' := [(6, gJ 1), (5, gJ 0), (8, gJ v246), (10, gJ v163), (0, gA n0 o), (2, gA n0 ob), (3, gJ c), (4, gJ d), (7, gJ v3), (9, gJ v5)]) X dX0_holds_137 (by decide) rfl rfl ?_
                      refine g_iconst (n := 140) X dX0_holds_139 rfl ?_
                      refine g_istore (n := 142) (L' := [(7, gJ 0), (6, gJ 1), (5, gJ 0), (8, gJ v246), (10, gJ v163), (0, gA n0 o), (2, gA n0 ob), (3, gJ c), (4, gJ d), (9, gJ v5)]) X dX0_holds_140 (by decide) rfl rfl ?_
                      refine g_goto (tgt := 268) X dX0_holds_142 (by decide) ?_
                      refine g_iinc (n := 271) (w := v5 + 1) (L' := [(9, gJ (v5 + 1)), (7, gJ 0), (6, gJ 1), (5, gJ 0), (8, gJ v246), (10, gJ v163), (0, gA n0 o), (2, gA n0 ob), (3, gJ c), (4, gJ d)]) X 9 dX0_holds_268 rfl rfl (by decide) rfl rfl ?_
                      refine g_goto (tgt := 15) X dX0_holds_271 (by decide) ?_
                      refine G.sub (L' := [(0, gA n0 o), (2, gA n0 ob), (3, gJ c), (4, gJ d), (5, gJ 0), (6, gJ 1), (7, gJ 0), (8, gJ v246), (9, gJ (v5 + 1))]) [6, 7, 8, 9, 3, 2, 1, 4, 0] rfl ?_
                      exact ih157 0 1 0 v246 (v5 + 1) (by omega) (by omega) (by omega) (by omega) (by omega) (by omega)
                    · refine g_iconst (n := 126) X dX0_holds_125 rfl ?_
                      refine g_goto (tgt := 130) X dX0_holds_126 (by decide) ?_
                      refine g_iorA (n := 131) X dX0_holds_130 rfl (fun v248 rv248 xv248 => ?_)
                      clear xv248
                      refine g_istore (n := 133) (L' := [(8, gJ v248), (10, gJ v163), (0, gA n0 o), (2, gA n0 ob), (3, gJ c), (4, gJ d), (5, gJ v1), (6, gJ v2), (7, gJ v3), (9, gJ v5)]) X dX0_holds_131 (by decide) rfl rfl ?_
                      refine g_iconst (n := 134) X dX0_holds_133 rfl ?_
                      refine g_istore (n := 136) (L' := [(5, gJ 0), (8, gJ v248), (10, gJ v163), (0, gA n0 o), (2, gA n0 ob), (3, gJ c), (4, gJ d), (6, gJ v2), (7, gJ v3), (9, gJ v5)]) X dX0_holds_134 (by decide) rfl rfl ?_
                      refine g_iconst (n := 137) X dX0_holds_136 rfl ?_
                      refine g_istore (n := 139) (L' := [(6, gJ 1), (5, gJ 0), (8, gJ v248), (10, gJ v163), (0, gA n0 o), (2, gA n0 ob), (3, gJ c), (4, gJ d), (7, gJ v3), (9, gJ v5)]) X dX0_holds_137 (by decide) rfl rfl ?_
                      refine g_iconst (n := 140) X dX0_holds_139 rfl ?_
                      refine g_istore (n := 142) (L' := [(7, gJ 0), (6, gJ 1), (5, gJ 0), (8, gJ v248), (10, gJ v163), (0, gA n0 o), (2, gA n0 ob), (3, gJ c), (4, gJ d), (9, gJ v5)]) X dX0_holds_140 (by decide) rfl rfl ?_
                      refine g_goto (tgt := 268) X dX0_holds_142 (by decide) ?_
                      refine g_iinc (n := 271) (w := v5 + 1) (L' := [(9, gJ (v5 + 1)), (7, gJ 0), (6, gJ 1), (5, gJ 0), (8, gJ v248), (10, gJ v163), (0, gA n0 o), (2, gA n0 ob), (3, gJ c), (4, gJ d)]) X 9 dX0_holds_268 rfl rfl (by decide) rfl rfl ?_
                      refine g_goto (tgt := 15) X dX0_holds_271 (by decide) ?_
                      refine G.sub (L' := [(0, gA n0 o), (2, gA n0 ob), (3, gJ c), (4, gJ d), (5, gJ 0), (6, gJ 1), (7, gJ 0), (8, gJ v248), (9, gJ (v5 + 1))]) [6, 7, 8, 9, 3, 2, 1, 4, 0] rfl ?_
                      exact ih157 0 1 0 v248 (v5 + 1) (by omega) (by omega) (by omega) (by omega) (by omega) (by omega)
                · refine g_iconst (n := 104) X dX0_holds_103 rfl ?_
                  refine g_goto (tgt := 108) X dX0_holds_104 (by decide) ?_
                  refine g_iorA (n := 109) X dX0_holds_108 rfl (fun v249 rv249 xv249 => ?_)
                  clear xv249
                  refine g_iload (n := 111) X 6 dX0_holds_109 rfl rfl ?_
                  refine g_if_eq (n := 114) (tgt := 118) X dX0_holds_111 (by decide) (by omega) rfl (fun c250 => ?_) (fun c250 => ?_)
                  · refine g_iconst (n := 119) X dX0_holds_118 rfl ?_
                    refine g_iorE (n := 120) (z := v249) X dX0_holds_119 (gi_or0 _) rfl ?_
                    refine g_iload (n := 122) X 7 dX0_holds_120 rfl rfl ?_
                    refine g_if_eq (n := 125) (tgt := 129) X dX0_holds_122 (by decide) (by omega) rfl (fun c251 => ?_) (fun c251 => ?_)
                    · refine g_iconst (n := 130) X dX0_holds_129 rfl ?_
                      refine g_iorE (n := 131) (z := v249) X dX0_holds_130 (gi_or0 _) rfl ?_
                      refine g_istore (n := 133) (L' := [(8, gJ v249), (10, gJ v163), (0, gA n0 o), (2, gA n0 ob), (3, gJ c), (4, gJ d), (5, gJ v1), (6, gJ v2), (7, gJ v3), (9, gJ v5)]) X dX0_holds_131 (by decide) rfl rfl ?_
                      refine g_iconst (n := 134) X dX0_holds_133 rfl ?_
                      refine g_istore (n := 136) (L' := [(5, gJ 0), (8, gJ v249), (10, gJ v163), (0, gA n0 o), (2, gA n0 ob), (3, gJ c), (4, gJ d), (6, gJ v2), (7, gJ v3), (9, gJ v5)]) X dX0_holds_134 (by decide) rfl rfl ?_
                      refine g_iconst (n := 137) X dX0_holds_136 rfl ?_
                      refine g_istore (n := 139) (L' := [(6, gJ 1), (5, gJ 0), (8, gJ v249), (10, gJ v163), (0, gA n0 o), (2, gA n0 ob), (3, gJ c), (4, gJ d), (7, gJ v3), (9, gJ v5)]) X dX0_holds_137 (by decide) rfl rfl ?_
                      refine g_iconst (n := 140) X dX0_holds_139 rfl ?_
                      refine g_istore (n := 142) (L' := [(7, gJ 0), (6, gJ 1), (5, gJ 0), (8, gJ v249), (10, gJ v163), (0, gA n0 o), (2, gA n0 ob), (3, gJ c), (4, gJ d), (9, gJ v5)]) X dX0_holds_140 (by decide) rfl rfl ?_
                      refine g_goto (tgt := 268) X dX0_holds_142 (by decide) ?_
                      refine g_iinc (n := 271) (w := v5 + 1) (L' := [(9, gJ (v5 + 1)), (7, gJ 0), (6, gJ 1), (5, gJ 0), (8, gJ v249), (10, gJ v163), (0, gA n0 o), (2, gA n0 ob), (3, gJ c), (4, gJ d)]) X 9 dX0_holds_268 rfl rfl (by decide) rfl rfl ?_
                      refine g_goto (tgt := 15) X dX0_holds_271 (by decide) ?_
                      refine G.sub (L' := [(0, gA n0 o), (2, gA n0 ob), (3, gJ c), (4, gJ d), (5, gJ 0), (6, gJ 1), (7, gJ 0), (8, gJ v249), (9, gJ (v5 + 1))]) [6, 7, 8, 9, 3, 2, 1, 4, 0] rfl ?_
                      exact ih157 0 1 0 v249 (v5 + 1) (by omega) (by omega) (by omega) (by omega) (by omega) (by omega)
                    · refine g_iconst (n := 126) X dX0_holds_125 rfl ?_
                      refine g_goto (tgt := 130) X dX0_holds_126 (by decide) ?_
                      refine g_iorA (n := 131) X dX0_holds_130 rfl (fun v252 rv252 xv252 => ?_)
                      clear xv252
                      refine g_istore (n := 133) (L' := [(8, gJ v252), (10, gJ v163), (0, gA n0 o), (2, gA n0 ob), (3, gJ c), (4, gJ d), (5, gJ v1), (6, gJ v2), (7, gJ v3), (9, gJ v5)]) X dX0_holds_131 (by decide) rfl rfl ?_
                      refine g_iconst (n := 134) X dX0_holds_133 rfl ?_
                      refine g_istore (n := 136) (L' := [(5, gJ 0), (8, gJ v252), (10, gJ v163), (0, gA n0 o), (2, gA n0 ob), (3, gJ c), (4, gJ d), (6, gJ v2), (7, gJ v3), (9, gJ v5)]) X dX0_holds_134 (by decide) rfl rfl ?_
                      refine g_iconst (n := 137) X dX0_holds_136 rfl ?_
                      refine g_istore (n := 139) (L' := [(6, gJ 1), (5, gJ 0), (8, gJ v252), (10, gJ v163), (0, gA n0 o), (2, gA n0 ob), (3, gJ c), (4, gJ d), (7, gJ v3), (9, gJ v5)]) X dX0_holds_137 (by decide) rfl rfl ?_
                      refine g_iconst (n := 140) X dX0_holds_139 rfl ?_
                      refine g_istore (n := 142) (L' := [(7, gJ 0), (6, gJ 1), (5, gJ 0), (8, gJ v252), (10, gJ v163), (0, gA n0 o), (2, gA n0 ob), (3, gJ c), (4, gJ d), (9, gJ v5)]) X dX0_holds_140 (by decide) rfl rfl ?_
                      refine g_goto (tgt := 268) X dX0_holds_142 (by decide) ?_
                      refine g_iinc (n := 271) (w := v5 + 1) (L' := [(9, gJ (v5 + 1)), (7, gJ 0), (6, gJ 1), (5, gJ 0), (8, gJ v252), (10, gJ v163), (0, gA n0 o), (2, gA n0 ob), (3, gJ c), (4, gJ d)]) X 9 dX0_holds_268 rfl rfl (by decide) rfl rfl ?_
                      refine g_goto (tgt := 15) X dX0_holds_271 (by decide) ?_
                      refine G.sub (L' := [(0, gA n0 o), (2, gA n0 ob), (3, gJ c), (4, gJ d), (5, gJ 0), (6, gJ 1), (7, gJ 0), (8, gJ v252), (9, gJ (v5 + 1))]) [6, 7, 8, 9, 3, 2, 1, 4, 0] rfl ?_
                      exact ih157 0 1 0 v252 (v5 + 1) (by omega) (by omega) (by omega) (by omega) (by omega) (by omega)
                  · refine g_iconst (n := 115) X dX0_holds_114 rfl ?_
                    refine g_goto (tgt := 119) X dX0_holds_115 (by decide) ?_
                    refine g_iorA (n := 120) X dX0_holds_119 rfl (fun v253 rv253 xv253 => ?_)
                    clear xv253
                    refine g_iload (n := 122) X 7 dX0_holds_120 rfl rfl ?_
                    refine g_if_eq (n := 125) (tgt := 129) X dX0_holds_122 (by decide) (by omega) rfl (fun c254 => ?_) (fun c254 => ?_)
                    · refine g_iconst (n := 130) X dX0_holds_129 rfl ?_
                      refine g_iorE (n := 131) (z := v253) X dX0_holds_130 (gi_or0 _) rfl ?_
                      refine g_istore (n := 133) (L' := [(8, gJ v253), (10, gJ v163), (0, gA n0 o), (2, gA n0 ob), (3, gJ c), (4, gJ d), (5, gJ v1), (6, gJ v2), (7, gJ v3), (9, gJ v5)]) X dX0_holds_131 (by decide) rfl rfl ?_
                      refine g_iconst (n := 134) X dX0_holds_133 rfl ?_
                      refine g_istore (n := 136) (L' := [(5, gJ 0), (8, gJ v253), (10, gJ v163), (0, gA n0 o), (2, gA n0 ob), (3, gJ c), (4, gJ d), (6, gJ v2), (7, gJ v3), (9, gJ v5)]) X dX0_holds_134 (by decide) rfl rfl ?_
                      refine g_iconst (n := 137) X dX0_holds_136 rfl ?_
                      refine g_istore (n := 139) (L' := [(6, gJ 1), (5, gJ 0), (8, gJ v253), (10, gJ v163), (0, gA n0 o), (2, gA n0 ob), (3, gJ c), (4, gJ d), (7, gJ v3), (9, gJ v5)]) X dX0_holds_137 (by decide) rfl rfl ?_
                      refine g_iconst (n := 140) X dX0_holds_139 rfl ?_
                      refine g_istore (n := 142) (L' := [(7, gJ 0), (6, gJ 1), (5, gJ 0), (8, gJ v253), (10, gJ v163), (0, gA n0 o), (2, gA n0 ob), (3, gJ c), (4, gJ d), (9, gJ v5)]) X dX0_holds_140 (by decide) rfl rfl ?_
                      refine g_goto (tgt := 268) X dX0_holds_142 (by decide) ?_
                      refine g_iinc (n := 271) (w := v5 + 1) (L' := [(9, gJ (v5 + 1)), (7, gJ 0), (6, gJ 1), (5, gJ 0), (8, gJ v253), (10, gJ v163), (0, gA n0 o), (2, gA n0 ob), (3, gJ c), (4, gJ d)]) X 9 dX0_holds_268 rfl rfl (by decide) rfl rfl ?_
                      refine g_goto (tgt := 15) X dX0_holds_271 (by decide) ?_
                      refine G.sub (L' := [(0, gA n0 o), (2, gA n0 ob), (3, gJ c), (4, gJ d), (5, gJ 0), (6, gJ 1), (7, gJ 0), (8, gJ v253), (9, gJ (v5 + 1))]) [6, 7, 8, 9, 3, 2, 1, 4, 0] rfl ?_
                      exact ih157 0 1 0 v253 (v5 + 1) (by omega) (by omega) (by omega) (by omega) (by omega) (by omega)
                    · refine g_iconst (n := 126) X dX0_holds_125 rfl ?_
                      refine g_goto (tgt := 130) X dX0_holds_126 (by decide) ?_
                      refine g_iorA (n := 131) X dX0_holds_130 rfl (fun v255 rv255 xv255 => ?_)
                      clear xv255
                      refine g_istore (n := 133) (L' := [(8, gJ v255), (10, gJ v163), (0, gA n0 o), (2, gA n0 ob), (3, gJ c), (4, gJ d), (5, gJ v1), (6, gJ v2), (7, gJ v3), (9, gJ v5)]) X dX0_holds_131 (by decide) rfl rfl ?_
                      refine g_iconst (n := 134) X dX0_holds_133 rfl ?_
                      refine g_istore (n := 136) (L' := [(5, gJ 0), (8, gJ v255), (10, gJ v163), (0, gA n0 o), (2, gA n0 ob), (3, gJ c), (4, gJ d), (6, gJ v2), (7, gJ v3), (9, gJ v5)]) X dX0_holds_134 (by decide) rfl rfl ?_
                      refine g_iconst (n := 137) X dX0_holds_136 rfl ?_
                      refine g_istore (n := 139) (L' := [(6, gJ 1), (5, gJ 0), (8, gJ v255), (10, gJ v163), (0, gA n0 o), (2, gA n0 ob), (3, gJ c), (4, gJ d), (7, gJ v3), (9, gJ v5)]) X dX0_holds_137 (by decide) rfl rfl ?_
                      refine g_iconst (n := 140) X dX0_holds_139 rfl ?_
                      refine g_istore (n := 142) (L' := [(7, gJ 0), (6, gJ 1), (5, gJ 0), (8, gJ v255), (10, gJ v163), (0, gA n0 o), (2, gA n0 ob), (3, gJ c), (4, gJ d), (9, gJ v5)]) X dX0_holds_140 (by decide) rfl rfl ?_
                      refine g_goto (tgt := 268) X dX0_holds_142 (by decide) ?_
                      refine g_iinc (n := 271) (w := v5 + 1) (L' := [(9, gJ (v5 + 1)), (7, gJ 0), (6, gJ 1), (5, gJ 0), (8, gJ v255), (10, gJ v163), (0, gA n0 o), (2, gA n0 ob), (3, gJ c), (4, gJ d)]) X 9 dX0_holds_268 rfl rfl (by decide) rfl rfl ?_
                      refine g_goto (tgt := 15) X dX0_holds_271 (by decide) ?_
                      refine G.sub (L' := [(0, gA n0 o), (2, gA n0 ob), (3, gJ c), (4, gJ d), (5, gJ 0), (6, gJ 1), (7, gJ 0), (8, gJ v255), (9, gJ (v5 + 1))]) [6, 7, 8, 9, 3, 2, 1, 4, 0] rfl ?_
                      exact ih157 0 1 0 v255 (v5 + 1) (by omega) (by omega) (by omega) (by omega) (by omega) (by omega)
            · refine g_iload (n := 76) X 5 dX0_holds_74 rfl rfl ?_
              refine g_iload (n := 78) X 6 dX0_holds_76 rfl rfl ?_
              refine g_iorB (n := 79) X dX0_holds_78 (by omega) (by omega) rfl (fun v256 rv256 => ?_)
              refine g_istore (n := 81) (L' := [(5, gJ v256), (10, gJ v163), (0, gA n0 o), (2, gA n0 ob), (3, gJ c), (4, gJ d), (6, gJ v2), (7, gJ v3), (8, gJ v4), (9, gJ v5)]) X dX0_holds_79 (by decide) rfl rfl ?_
              refine g_iconst (n := 82) X dX0_holds_81 rfl ?_
              refine g_istore (n := 84) (L' := [(6, gJ 1), (5, gJ v256), (10, gJ v163), (0, gA n0 o), (2, gA n0 ob), (3, gJ c), (4, gJ d), (7, gJ v3), (8, gJ v4), (9, gJ v5)]) X dX0_holds_82 (by decide) rfl rfl ?_
              refine g_goto (tgt := 268) X dX0_holds_84 (by decide) ?_
              refine g_iinc (n := 271) (w := v5 + 1) (L' := [(9, gJ (v5 + 1)), (6, gJ 1), (5, gJ v256), (10, gJ v163), (0, gA n0 o), (2, gA n0 ob), (3, gJ c), (4, gJ d), (7, gJ v3), (8, gJ v4)]) X 9 dX0_holds_268 rfl rfl (by decide) rfl rfl ?_
              refine g_goto (tgt := 15) X dX0_holds_271 (by decide) ?_
              refine G.sub (L' := [(0, gA n0 o), (2, gA n0 ob), (3, gJ c), (4, gJ d), (5, gJ v256), (6, gJ 1), (7, gJ v3), (8, gJ v4), (9, gJ (v5 + 1))]) [4, 5, 6, 7, 2, 1, 8, 9, 0] rfl ?_
              exact ih157 v256 1 v3 v4 (v5 + 1) (by omega) (by omega) (by omega) (by omega) (by omega) (by omega)
          · refine g_iload (n := 54) X 7 dX0_holds_52 rfl rfl ?_
            refine g_if_ne (n := 57) (tgt := 61) X dX0_holds_54 (by decide) (by omega) rfl (fun c257 => ?_) (fun c257 => ?_)
            · refine g_iconst (n := 62) X dX0_holds_61 rfl ?_
              refine g_istore (n := 64) (L' := [(7, gJ 0), (10, gJ v163), (0, gA n0 o), (2, gA n0 ob), (3, gJ c), (4, gJ d), (5, gJ v1), (6, gJ v2), (8, gJ v4), (9, gJ v5)]) X dX0_holds_62 (by decide) rfl rfl ?_
              refine g_goto (tgt := 268) X dX0_holds_64 (by decide) ?_
              refine g_iinc (n := 271) (w := v5 + 1) (L' := [(9, gJ (v5 + 1)), (7, gJ 0), (10, gJ v163), (0, gA n0 o), (2, gA n0 ob), (3, gJ c), (4, gJ d), (5, gJ v1), (6, gJ v2), (8, gJ v4)]) X 9 dX0_holds_268 rfl rfl (by decide) rfl rfl ?_
              refine g_goto (tgt := 15) X dX0_holds_271 (by decide) ?_
              refine G.sub (L' := [(0, gA n0 o), (2, gA n0 ob), (3, gJ c), (4, gJ d), (5, gJ v1), (6, gJ v2), (7, gJ 0), (8, gJ v4), (9, gJ (v5 + 1))]) [3, 4, 5, 6, 7, 8, 1, 9, 0] rfl ?_
              exact ih157 v1 v2 0 v4 (v5 + 1) (by omega) (by omega) (by omega) (by omega) (by omega) (by omega)
            · refine g_iconst (n := 58) X dX0_holds_57 rfl ?_
              refine g_goto (tgt := 62) X dX0_holds_58 (by decide) ?_
              refine g_istore (n := 64) (L' := [(7, gJ 1), (10, gJ v163), (0, gA n0 o), (2, gA n0 ob), (3, gJ c), (4, gJ d), (5, gJ v1), (6, gJ v2), (8, gJ v4), (9, gJ v5)]) X dX0_holds_62 (by decide) rfl rfl ?_
              refine g_goto (tgt := 268) X dX0_holds_64 (by decide) ?_
              refine g_iinc (n := 271) (w := v5 + 1) (L' := [(9, gJ (v5 + 1)), (7, gJ 1), (10, gJ v163), (0, gA n0 o), (2, gA n0 ob), (3, gJ c), (4, gJ d), (5, gJ v1), (6, gJ v2), (8, gJ v4)]) X 9 dX0_holds_268 rfl rfl (by decide) rfl rfl ?_
              refine g_goto (tgt := 15) X dX0_holds_271 (by decide) ?_
              refine G.sub (L' := [(0, gA n0 o), (2, gA n0 ob), (3, gJ c), (4, gJ d), (5, gJ v1), (6, gJ v2), (7, gJ 1), (8, gJ v4), (9, gJ (v5 + 1))]) [3, 4, 5, 6, 7, 8, 1, 9, 0] rfl ?_
              exact ih157 v1 v2 1 v4 (v5 + 1) (by omega) (by omega) (by omega) (by omega) (by omega) (by omega)
  refine G.sub (L' := [(0, gA n0 o), (2, gA n0 ob), (3, gJ c), (4, gJ d), (5, gJ 0), (6, gJ 1), (7, gJ 0), (8, gJ 0), (9, gJ a)]) [5, 7, 8, 9, 4, 3, 2, 1, 0] rfl ?_
  exact j7 _ 0 1 0 0 a (by omega) (by omega) (by omega) (by omega) (by omega) (Nat.lt_succ_self _)
theorem dX9_firstClause_0 : decode cX9_firstClause 0 = .ok (.aload_n 0, 1) := dc_42 (by decide +kernel)
theorem dX9_firstClause_1 : decode cX9_firstClause 1 = .ok (.iload_n 1, 1) := dc_27 (by decide +kernel)
theorem dX9_firstClause_2 : decode cX9_firstClause 2 = .ok (.aload_n 0, 1) := dc_42 (by decide +kernel)
theorem dX9_firstClause_3 : decode cX9_firstClause 3 = .ok (.getfield 110, 3) := dc_180 0 110 (by decide +kernel)
theorem dX9_firstClause_6 : decode cX9_firstClause 6 = .ok (.invokevirtual 142, 3) := dc_182 0 142 (by decide +kernel)
theorem dX9_firstClause_9 : decode cX9_firstClause 9 = .ok (.istore_n 3, 1) := dc_62 (by decide +kernel)
theorem dX9_firstClause_10 : decode cX9_firstClause 10 = .ok (.iload_n 3, 1) := dc_29 (by decide +kernel)
theorem dX9_firstClause_11 : decode cX9_firstClause 11 = .ok (.iconst (-1), 1) := dc_2 (by decide +kernel)
theorem dX9_firstClause_12 : decode cX9_firstClause 12 = .ok (.if_icmp .ne 16, 3) := dc_160 0 16 16 (by decide +kernel)
theorem dX9_firstClause_28 : decode cX9_firstClause 28 = .ok (.aload_n 0, 1) := dc_42 (by decide +kernel)
theorem dX9_firstClause_29 : decode cX9_firstClause 29 = .ok (.getfield 32, 3) := dc_180 0 32 (by decide +kernel)
theorem dX9_firstClause_32 : decode cX9_firstClause 32 = .ok (.iload_n 3, 1) := dc_29 (by decide +kernel)
theorem dX9_firstClause_33 : decode cX9_firstClause 33 = .ok (.aaload, 1) := dc_50 (by decide +kernel)
theorem dX9_firstClause_34 : decode cX9_firstClause 34 = .ok (.astore 4, 2) := dc_58 4 (by decide +kernel)
theorem dX9_firstClause_36 : decode cX9_firstClause 36 = .ok (.iconst 0, 1) := dc_3 (by decide +kernel)
theorem dX9_firstClause_37 : decode cX9_firstClause 37 = .ok (.istore 5, 2) := dc_54 5 (by decide +kernel)
theorem dX9_firstClause_39 : decode cX9_firstClause 39 = .ok (.iload 5, 2) := dc_21 5 (by decide +kernel)
theorem dX9_firstClause_41 : decode cX9_firstClause 41 = .ok (.aload 4, 2) := dc_25 4 (by decide +kernel)
theorem dX9_firstClause_43 : decode cX9_firstClause 43 = .ok (.getfield 149, 3) := dc_180 0 149 (by decide +kernel)
theorem kw_2_86 : (Jvm.Cond.fieldLink "ParishUnion$Union" (149 : Nat) "ParishUnion$Act" "clauses" "I") ∈ gT := gT_of (tb_2 _ (List.mem_of_getElem? (i := 86) rfl)) rfl
theorem dX9_firstClause_46 : decode cX9_firstClause 46 = .ok (.if_icmp .ge 63, 3) := dc_162 0 63 63 (by decide +kernel)
theorem dX9_firstClause_109 : decode cX9_firstClause 109 = .ok (.bipush (-5), 2) := dc_16 251 (-5) (by decide +kernel)
theorem dX9_firstClause_111 : decode cX9_firstClause 111 = .ok (.ireturn, 1) := dc_172 (by decide +kernel)
theorem dX9_firstClause_49 : decode cX9_firstClause 49 = .ok (.aload 4, 2) := dc_25 4 (by decide +kernel)
theorem dX9_firstClause_51 : decode cX9_firstClause 51 = .ok (.getfield 152, 3) := dc_180 0 152 (by decide +kernel)
theorem kw_2_76 : (Jvm.Cond.fieldLink "ParishUnion$Union" (152 : Nat) "ParishUnion$Act" "word" "[I") ∈ gT := gT_of (tb_2 _ (List.mem_of_getElem? (i := 76) rfl)) rfl
theorem dX9_firstClause_54 : decode cX9_firstClause 54 = .ok (.iload 5, 2) := dc_21 5 (by decide +kernel)
theorem dX9_firstClause_56 : decode cX9_firstClause 56 = .ok (.iaload, 1) := dc_46 (by decide +kernel)
theorem dX9_firstClause_57 : decode cX9_firstClause 57 = .ok (.iload_n 1, 1) := dc_27 (by decide +kernel)
theorem dX9_firstClause_58 : decode cX9_firstClause 58 = .ok (.if_icmp .ne 45, 3) := dc_160 0 45 45 (by decide +kernel)
theorem dX9_firstClause_103 : decode cX9_firstClause 103 = .ok (.iinc 5 1, 3) := dc_132 5 1 1 (by decide +kernel)
theorem dX9_firstClause_106 : decode cX9_firstClause 106 = .ok (.goto (-67), 3) := dc_167 255 189 (-67) (by decide +kernel)
theorem dX9_firstClause_61 : decode cX9_firstClause 61 = .ok (.aload 4, 2) := dc_25 4 (by decide +kernel)
theorem dX9_firstClause_63 : decode cX9_firstClause 63 = .ok (.aload 4, 2) := dc_25 4 (by decide +kernel)
theorem dX9_firstClause_65 : decode cX9_firstClause 65 = .ok (.getfield 155, 3) := dc_180 0 155 (by decide +kernel)
theorem kw_2_80 : (Jvm.Cond.fieldLink "ParishUnion$Union" (155 : Nat) "ParishUnion$Act" "place" "[I") ∈ gT := gT_of (tb_2 _ (List.mem_of_getElem? (i := 80) rfl)) rfl
theorem dX9_firstClause_68 : decode cX9_firstClause 68 = .ok (.iload 5, 2) := dc_21 5 (by decide +kernel)
theorem dX9_firstClause_70 : decode cX9_firstClause 70 = .ok (.iaload, 1) := dc_46 (by decide +kernel)
theorem dX9_firstClause_71 : decode cX9_firstClause 71 = .ok (.aload_n 2, 1) := dc_44 (by decide +kernel)
theorem dX9_firstClause_72 : decode cX9_firstClause 72 = .ok (.aload_n 0, 1) := dc_42 (by decide +kernel)
theorem dX9_firstClause_73 : decode cX9_firstClause 73 = .ok (.getfield 110, 3) := dc_180 0 110 (by decide +kernel)
theorem dX9_firstClause_76 : decode cX9_firstClause 76 = .ok (.aload_n 0, 1) := dc_42 (by decide +kernel)
theorem dX9_firstClause_77 : decode cX9_firstClause 77 = .ok (.getfield 50, 3) := dc_180 0 50 (by decide +kernel)
theorem dX9_firstClause_80 : decode cX9_firstClause 80 = .ok (.getfield 158, 3) := dc_180 0 158 (by decide +kernel)
theorem kw_1_99 : (Jvm.Cond.fieldLink "ParishUnion$Union" (158 : Nat) "ParishUnion$House" "frost" "[I") ∈ gT := gT_of (tb_1 _ (List.mem_of_getElem? (i := 99) rfl)) rfl
theorem dX9_firstClause_83 : decode cX9_firstClause 83 = .ok (.aload_n 0, 1) := dc_42 (by decide +kernel)
theorem dX9_firstClause_84 : decode cX9_firstClause 84 = .ok (.getfield 110, 3) := dc_180 0 110 (by decide +kernel)
theorem dX9_firstClause_87 : decode cX9_firstClause 87 = .ok (.iaload, 1) := dc_46 (by decide +kernel)
theorem dX9_firstClause_88 : decode cX9_firstClause 88 = .ok (.invokevirtual 161, 3) := dc_182 0 161 (by decide +kernel)
theorem kw_4_105 : (Jvm.Cond.methodLink "ParishUnion$Union" (161 : Nat) ({ cls := "ParishUnion$Act", name := "holds", desc := "(ILParishUnion$Person;II)Z" } : Jvm.MethodName)) ∈ gT := gT_of (tb_4 _ (List.mem_of_getElem? (i := 105) rfl)) rfl
theorem kw_4_108 : (Jvm.Cond.code ({ cls := "ParishUnion$Act", name := "holds", desc := "(ILParishUnion$Person;II)Z" } : Jvm.MethodName) prog_2_method_5_code (12 : Nat) (Option.some Jvm.ClassFile.FieldType.boolean)) ∈ gT := gT_of (tb_4 _ (List.mem_of_getElem? (i := 108) rfl)) rfl
theorem okX0_holds : gQok yX0_holds cX0_holds 12 (Option.some Jvm.ClassFile.FieldType.boolean) 4 := ⟨kw_4_108, kw_1_10, by decide +kernel, by decide +kernel, by decide +kernel⟩
theorem kw_4_106 : (Jvm.Cond.instanceMethod ({ cls := "ParishUnion$Act", name := "holds", desc := "(ILParishUnion$Person;II)Z" } : Jvm.MethodName)) ∈ gT := gT_of (tb_4 _ (List.mem_of_getElem? (i := 106) rfl)) rfl
theorem kw_4_107 : (Jvm.Cond.selects "ParishUnion$Act" ({ cls := "ParishUnion$Act", name := "holds", desc := "(ILParishUnion$Person;II)Z" } : Jvm.MethodName) ({ cls := "ParishUnion$Act", name := "holds", desc := "(ILParishUnion$Person;II)Z" } : Jvm.MethodName)) ∈ gT := gT_of (tb_4 _ (List.mem_of_getElem? (i := 107) rfl)) rfl
theorem dX9_firstClause_91 : decode cX9_firstClause 91 = .ok (.ifCond .eq 12, 3) := dc_153 0 12 12 (by decide +kernel)
theorem dX9_firstClause_94 : decode cX9_firstClause 94 = .ok (.aload 4, 2) := dc_25 4 (by decide +kernel)
theorem dX9_firstClause_96 : decode cX9_firstClause 96 = .ok (.getfield 165, 3) := dc_180 0 165 (by decide +kernel)
theorem kw_2_78 : (Jvm.Cond.fieldLink "ParishUnion$Union" (165 : Nat) "ParishUnion$Act" "n" "[I") ∈ gT := gT_of (tb_2 _ (List.mem_of_getElem? (i := 78) rfl)) rfl
theorem dX9_firstClause_99 : decode cX9_firstClause 99 = .ok (.iload 5, 2) := dc_21 5 (by decide +kernel)
theorem dX9_firstClause_101 : decode cX9_firstClause 101 = .ok (.iaload, 1) := dc_46 (by decide +kernel)
theorem dX9_firstClause_102 : decode cX9_firstClause 102 = .ok (.ireturn, 1) := dc_172 (by decide +kernel)
theorem dX9_firstClause_15 : decode cX9_firstClause 15 = .ok (.iload_n 1, 1) := dc_27 (by decide +kernel)
theorem dX9_firstClause_16 : decode cX9_firstClause 16 = .ok (.bipush 9, 2) := dc_16 9 9 (by decide +kernel)
theorem dX9_firstClause_18 : decode cX9_firstClause 18 = .ok (.if_icmp .ne 7, 3) := dc_160 0 7 7 (by decide +kernel)
theorem dX9_firstClause_25 : decode cX9_firstClause 25 = .ok (.bipush (-5), 2) := dc_16 251 (-5) (by decide +kernel)
theorem dX9_firstClause_27 : decode cX9_firstClause 27 = .ok (.ireturn, 1) := dc_172 (by decide +kernel)
theorem dX9_firstClause_21 : decode cX9_firstClause 21 = .ok (.iconst 0, 1) := dc_3 (by decide +kernel)
theorem dX9_firstClause_22 : decode cX9_firstClause 22 = .ok (.goto 5, 3) := dc_167 0 5 5 (by decide +kernel)
abbrev R_X9_firstClause : Room := { frames := 3, cells := 0, slots := 0, locals := 78 }
set_option maxRecDepth 100000 in
set_option maxHeartbeats 4000000 in
theorem s_X9_firstClause {l : Launch} {n0 : Nat} {D : va_G} {cA : Nat → ClassId} {M : gM} (a : Int) (r_a : 0 ≤ a ∧ a ≤ 9) (ob : Int) (r_ob : 31 ≤ ob ∧ ob < 47) {sz : Nat} (hsz : 206 ≤ sz) (I : gI sz M) (C : gC sz M)   : Met l yX9_firstClause (gWsOf yX9_firstClause cX9_firstClause 6 (Option.some Jvm.ClassFile.FieldType.int)) R_X9_firstClause (gPc n0 D cA [gA n0 1, gJ a, gA n0 ob] M sz) (gQi n0 D cA sz (fun z M1 => M = M1 ∧ (-2147483648 ≤ z ∧ z ≤ 2147483647) ∧ (a = 9 → z ≤ 3 ∧ (0 ≤ z ∨ z = -5)))) 0 0 (fun q => n0 ≤ q) := by
  refine gMetI [gA n0 1, gJ a, gA n0 ob] (by decide) (Nat.le_of_ble_eq_true rfl) ⟨rfl, rfl⟩ ?_
  intro p e s m args below meth cd Q X hq
  have X : gCx p s m args meth cd n0 D cA "ParishUnion$Union" cX9_firstClause 6 := X
  show G p l e R_X9_firstClause s m args below meth cd n0 D cA 6 Q 0 0 M sz 0 [(0, gA n0 1), (1, gJ a), (2, gA n0 ob)] []
  refine g_aload_n (n := 1) X 0 dX9_firstClause_0 rfl rfl rfl ?_
  refine g_iload_n (n := 2) X 1 dX9_firstClause_1 rfl rfl rfl ?_
  refine g_aload_n (n := 3) X 0 dX9_firstClause_2 rfl rfl rfl ?_
  obtain ⟨v1, hv1, rv1⟩ := gRd I (by decide) (gsz hsz (by decide)) rc_1_15.1
  refine gg_9_15 (n := 6) (z := v1) X (by decide) (gsz hsz (by decide)) lay_1 kw_2_138 dX9_firstClause_3 rfl hv1 ?_
  refine g_callVi (n := 9) (As := [gJ a, gJ v1]) (rest := []) (cs1 := 0) (ss1 := 0) X (s_X9_actInForce a (by omega) v1 (by omega) hsz I C ) okX9_actInForce kw_3_141 ⟨kw_3_142, kw_3_143⟩ ⟨rfl, rfl⟩ ⟨Nat.le_of_ble_eq_true rfl, Nat.le_of_ble_eq_true rfl⟩ rfl (by decide) (gsz hsz (by decide)) lay_1 rfl rfl (Nat.le_of_ble_eq_true rfl) ⟨Nat.le_of_ble_eq_true rfl, Nat.le_of_ble_eq_true rfl⟩ rfl rfl dX9_firstClause_6 rfl (fun v2 M3 P4 => ?_)
  obtain ⟨rfl, rv2⟩ := P4
  refine g_istore_n (n := 10) (L' := [(3, gJ v2), (0, gA n0 1), (1, gJ a), (2, gA n0 ob)]) X dX9_firstClause_9 rfl (by decide) rfl rfl ?_
  refine g_iload_n (n := 11) X 0 dX9_firstClause_10 rfl rfl rfl ?_
  refine g_iconst (n := 12) X dX9_firstClause_11 rfl ?_
  refine g_icmp_ne (n := 15) (tgt := 28) X dX9_firstClause_12 (by decide) (by omega) (by omega) rfl (fun c5 => ?_) (fun c5 => ?_)
  · refine g_aload_n (n := 29) X 1 dX9_firstClause_28 rfl rfl rfl ?_
    refine gg_9_3 (n := 32) (z := 7) X (by decide) (gsz hsz (by decide)) lay_1 kw_2_112 dX9_firstClause_29 rfl (rf_1_3 I (gsz hsz (by decide))) (by decide) ?_
    refine g_iload_n (n := 33) X 0 dX9_firstClause_32 rfl rfl rfl ?_
    obtain ⟨o6, ho6, ro6⟩ : ∃ o : Int, o = 87 + 6 * v2 ∧ (87 ≤ o ∧ o ≤ 147 ∧ (o - 87) % 6 = 0) := ⟨_, rfl, by omega⟩
    refine g_aald5 (n := 34) (t := o6) X (by decide) (gsz hsz (by decide)) lay_7 (by omega) (by omega) (by decide) (gA7 I hsz (by omega) (by omega) (by omega)) (by omega) dX9_firstClause_33 rfl ?_
    refine g_astore (n := 36) (L' := [(4, gA n0 o6), (3, gJ v2), (0, gA n0 1), (1, gJ a), (2, gA n0 ob)]) X dX9_firstClause_34 (by decide) rfl rfl ?_
    refine g_iconst (n := 37) X dX9_firstClause_36 rfl ?_
    refine g_istore (n := 39) (L' := [(5, gJ 0), (4, gA n0 o6), (3, gJ v2), (0, gA n0 1), (1, gJ a), (2, gA n0 ob)]) X dX9_firstClause_37 (by decide) rfl rfl ?_
    have j9 : ∀ (N54 : Nat) (v7 : Int) , (0 ≤ v7 ∧ v7 ≤ 8) → (8 - v7).toNat < N54 → G p l e R_X9_firstClause s m args below meth cd n0 D cA 6 Q 0 0 M sz 39 [(0, gA n0 1), (1, gJ a), (2, gA n0 ob), (4, gA n0 o6), (5, gJ v7)] [] := by
      intro N54; induction N54 with
      | zero => intro v7 rv7 hm56; exfalso; omega
      | succ N54 ih55 =>
        intro v7 rv7 hm56
        refine g_iload (n := 41) X 4 dX9_firstClause_39 rfl rfl ?_
        refine g_aload (n := 43) X 3 dX9_firstClause_41 rfl rfl ?_
        obtain ⟨v57, hv57, rv57⟩ := gRd I (Ao0 ro6) (Aosz hsz ro6) (rA_7 ro6).1
        refine gg_0_7 (n := 46) (z := v57) X (Ao0 ro6) (Aosz hsz ro6) (lay2_A ro6) kw_2_86 dX9_firstClause_43 rfl hv57 ?_
        refine g_icmp_ge (n := 49) (tgt := 109) X dX9_firstClause_46 (by decide) (by omega) (by omega) rfl (fun c58 => ?_) (fun c58 => ?_)
        · refine g_bipush (n := 111) X dX9_firstClause_109 (by decide +kernel) rfl ?_
          exact hq _ _ _ _ dX9_firstClause_111 ⟨rfl, by omega, by omega⟩
        · refine g_aload (n := 51) X 3 dX9_firstClause_49 rfl rfl ?_
          refine gg_0_2 (n := 54) (z := o6 + 3) X (Ao0 ro6) (Aosz hsz ro6) (lay2_A ro6) kw_2_76 dX9_firstClause_51 rfl (rfA_2 I hsz ro6) (by omega) ?_
          refine g_iload (n := 56) X 4 dX9_firstClause_54 rfl rfl ?_
          obtain ⟨v59, hv59, rv59⟩ := gRd I (A3o0 ro6) (A3osz hsz ro6) (rAA_3 ro6 v7).1
          refine g_iald2 (n := 57) (v := v59) X (A3o0 ro6) (A3osz hsz ro6) (lay2_A3 ro6) (by omega) (by omega) (by decide) dX9_firstClause_56 rfl hv59 ?_
          refine g_iload_n (n := 58) X 1 dX9_firstClause_57 rfl rfl rfl ?_
          refine g_icmp_ne (n := 61) (tgt := 103) X dX9_firstClause_58 (by decide) (by omega) (by omega) rfl (fun c60 => ?_) (fun c60 => ?_)
          · refine g_iinc (n := 106) (w := v7 + 1) (L' := [(5, gJ (v7 + 1)), (0, gA n0 1), (1, gJ a), (2, gA n0 ob), (4, gA n0 o6)]) X 4 dX9_firstClause_103 rfl rfl (by decide) rfl rfl ?_
            refine g_goto (tgt := 39) X dX9_firstClause_106 (by decide) ?_
            refine G.sub (L' := [(0, gA n0 1), (1, gJ a), (2, gA n0 ob), (4, gA n0 o6), (5, gJ (v7 + 1))]) [1, 2, 3, 4, 0] rfl ?_
            exact ih55 (v7 + 1) (by omega) (by omega)
          · refine g_aload (n := 63) X 3 dX9_firstClause_61 rfl rfl ?_
            refine g_aload (n := 65) X 3 dX9_firstClause_63 rfl rfl ?_
            refine gg_0_4 (n := 68) (z := o6 + 5) X (Ao0 ro6) (Aosz hsz ro6) (lay2_A ro6) kw_2_80 dX9_firstClause_65 rfl (rfA_4 I hsz ro6) (by omega) ?_
            refine g_iload (n := 70) X 4 dX9_firstClause_68 rfl rfl ?_
            obtain ⟨v61, hv61, rv61⟩ := gRd I (A5o0 ro6) (A5osz hsz ro6) (rAA_5 ro6 v7).1
            refine g_iald2 (n := 71) (v := v61) X (A5o0 ro6) (A5osz hsz ro6) (lay2_A5 ro6) (by omega) (by omega) (by decide) dX9_firstClause_70 rfl hv61 ?_
            refine g_aload_n (n := 72) X 2 dX9_firstClause_71 rfl rfl rfl ?_
            refine g_aload_n (n := 73) X 0 dX9_firstClause_72 rfl rfl rfl ?_
            refine gg_9_15 (n := 76) (z := v1) X (by decide) (gsz hsz (by decide)) lay_1 kw_2_138 dX9_firstClause_73 rfl hv1 ?_
            refine g_aload_n (n := 77) X 0 dX9_firstClause_76 rfl rfl rfl ?_
            refine gg_9_6 (n := 80) (z := 15) X (by decide) (gsz hsz (by decide)) lay_1 kw_2_118 dX9_firstClause_77 rfl (rf_1_6 I (gsz hsz (by decide))) (by decide) ?_
            refine gg_2_1 (n := 83) (z := 17) X (by decide) (gsz hsz (by decide)) lay_15 kw_1_99 dX9_firstClause_80 rfl (rf_15_1 I (gsz hsz (by decide))) (by decide) ?_
            refine g_aload_n (n := 84) X 0 dX9_firstClause_83 rfl rfl rfl ?_
            refine gg_9_15 (n := 87) (z := v1) X (by decide) (gsz hsz (by decide)) lay_1 kw_2_138 dX9_firstClause_84 rfl hv1 ?_
            obtain ⟨v62, hv62, rv62⟩ := gRd I (by decide) (gsz hsz (by decide)) (ra_17 v1).1
            refine g_iald2 (n := 88) (v := v62) X (by decide) (gsz hsz (by decide)) lay_17 (by omega) (by omega) (by decide) dX9_firstClause_87 rfl hv62 ?_
            refine g_callVi (n := 91) (As := [gJ v61, gA n0 ob, gJ v1, gJ v62]) (rest := []) (cs1 := 0) (ss1 := 0) X (s_X0_holds o6 ro6 v61 (by omega) ob r_ob v1 (by omega) v62 (by omega) hsz I C ) okX0_holds kw_4_105 ⟨kw_4_106, kw_4_107⟩ ⟨rfl, rfl⟩ ⟨Nat.le_of_ble_eq_true rfl, Nat.le_of_ble_eq_true rfl⟩ rfl (Ao0 ro6) (Aosz hsz ro6) (lay2_A ro6) rfl rfl (Nat.le_of_ble_eq_true rfl) ⟨Nat.le_of_ble_eq_true rfl, Nat.le_of_ble_eq_true rfl⟩ rfl rfl dX9_firstClause_88 rfl (fun v63 M64 P65 => ?_)
            obtain ⟨rfl, rv63⟩ := P65
            refine g_if_eq (n := 94) (tgt := 103) X dX9_firstClause_91 (by decide) (by omega) rfl (fun c66 => ?_) (fun c66 => ?_)
            · refine g_iinc (n := 106) (w := v7 + 1) (L' := [(5, gJ (v7 + 1)), (0, gA n0 1), (1, gJ a), (2, gA n0 ob), (4, gA n0 o6)]) X 4 dX9_firstClause_103 rfl rfl (by decide) rfl rfl ?_
              refine g_goto (tgt := 39) X dX9_firstClause_106 (by decide) ?_
              refine G.sub (L' := [(0, gA n0 1), (1, gJ a), (2, gA n0 ob), (4, gA n0 o6), (5, gJ (v7 + 1))]) [1, 2, 3, 4, 0] rfl ?_
              exact ih55 (v7 + 1) (by omega) (by omega)
            · refine g_aload (n := 96) X 3 dX9_firstClause_94 rfl rfl ?_
              refine gg_0_3 (n := 99) (z := o6 + 4) X (Ao0 ro6) (Aosz hsz ro6) (lay2_A ro6) kw_2_78 dX9_firstClause_96 rfl (rfA_3 I hsz ro6) (by omega) ?_
              refine g_iload (n := 101) X 4 dX9_firstClause_99 rfl rfl ?_
              obtain ⟨v67, hv67, rv67⟩ := gRd I (A4o0 ro6) (A4osz hsz ro6) (rAA_4 ro6 v7).1
              refine g_iald2 (n := 102) (v := v67) X (A4o0 ro6) (A4osz hsz ro6) (lay2_A4 ro6) (by omega) (by omega) (by decide) dX9_firstClause_101 rfl hv67 ?_
              exact hq _ _ _ _ dX9_firstClause_102 ⟨rfl, by omega, by intro ha; have h9 := C.2.2 o6 v7 (Or.inl ro6) (hv59.trans (by omega)); have h8 := hv67; omega⟩
    refine G.sub (L' := [(0, gA n0 1), (1, gJ a), (2, gA n0 ob), (4, gA n0 o6), (5, gJ 0)]) [3, 4, 5, 1, 0] rfl ?_
    exact j9 _ 0 (by omega) (Nat.lt_succ_self _)
  · refine g_iload_n (n := 16) X 2 dX9_firstClause_15 rfl rfl rfl ?_
    refine g_bipush (n := 18) X dX9_firstClause_16 (by decide +kernel) rfl ?_
    refine g_icmp_ne (n := 21) (tgt := 25) X dX9_firstClause_18 (by decide) (by omega) (by omega) rfl (fun c68 => ?_) (fun c68 => ?_)
    · refine g_bipush (n := 27) X dX9_firstClause_25 (by decide +kernel) rfl ?_
      exact hq _ _ _ _ dX9_firstClause_27 ⟨rfl, by omega, by omega⟩
    · refine g_iconst (n := 22) X dX9_firstClause_21 rfl ?_
      refine g_goto (tgt := 27) X dX9_firstClause_22 (by decide) ?_
      exact hq _ _ _ _ dX9_firstClause_27 ⟨rfl, by omega, by omega⟩
theorem dX9_growHungry_0 : decode cX9_growHungry 0 = .ok (.aload_n 0, 1) := dc_42 (by decide +kernel)
theorem dX9_growHungry_1 : decode cX9_growHungry 1 = .ok (.getfield 50, 3) := dc_180 0 50 (by decide +kernel)
theorem dX9_growHungry_4 : decode cX9_growHungry 4 = .ok (.getfield 158, 3) := dc_180 0 158 (by decide +kernel)
theorem dX9_growHungry_7 : decode cX9_growHungry 7 = .ok (.aload_n 0, 1) := dc_42 (by decide +kernel)
theorem dX9_growHungry_8 : decode cX9_growHungry 8 = .ok (.getfield 110, 3) := dc_180 0 110 (by decide +kernel)
theorem dX9_growHungry_11 : decode cX9_growHungry 11 = .ok (.iaload, 1) := dc_46 (by decide +kernel)
theorem dX9_growHungry_12 : decode cX9_growHungry 12 = .ok (.istore_n 1, 1) := dc_60 (by decide +kernel)
theorem dX9_growHungry_13 : decode cX9_growHungry 13 = .ok (.iconst 0, 1) := dc_3 (by decide +kernel)
theorem dX9_growHungry_14 : decode cX9_growHungry 14 = .ok (.istore_n 2, 1) := dc_61 (by decide +kernel)
theorem dX9_growHungry_15 : decode cX9_growHungry 15 = .ok (.iload_n 2, 1) := dc_28 (by decide +kernel)
theorem dX9_growHungry_16 : decode cX9_growHungry 16 = .ok (.aload_n 0, 1) := dc_42 (by decide +kernel)
theorem dX9_growHungry_17 : decode cX9_growHungry 17 = .ok (.getfield 79, 3) := dc_180 0 79 (by decide +kernel)
theorem dX9_growHungry_20 : decode cX9_growHungry 20 = .ok (.if_icmp .ge 102, 3) := dc_162 0 102 102 (by decide +kernel)
theorem dX9_growHungry_122 : decode cX9_growHungry 122 = .ok (.return_, 1) := dc_177 (by decide +kernel)
theorem dX9_growHungry_23 : decode cX9_growHungry 23 = .ok (.aload_n 0, 1) := dc_42 (by decide +kernel)
theorem dX9_growHungry_24 : decode cX9_growHungry 24 = .ok (.getfield 20, 3) := dc_180 0 20 (by decide +kernel)
theorem dX9_growHungry_27 : decode cX9_growHungry 27 = .ok (.iload_n 2, 1) := dc_28 (by decide +kernel)
theorem dX9_growHungry_28 : decode cX9_growHungry 28 = .ok (.aaload, 1) := dc_50 (by decide +kernel)
theorem dX9_growHungry_29 : decode cX9_growHungry 29 = .ok (.astore_n 3, 1) := dc_78 (by decide +kernel)
theorem dX9_growHungry_30 : decode cX9_growHungry 30 = .ok (.aload_n 3, 1) := dc_45 (by decide +kernel)
theorem dX9_growHungry_31 : decode cX9_growHungry 31 = .ok (.invokevirtual 223, 3) := dc_182 0 223 (by decide +kernel)
theorem kw_4_198 : (Jvm.Cond.methodLink "ParishUnion$Union" (223 : Nat) ({ cls := "ParishUnion$Person", name := "beginWeek", desc := "()V" } : Jvm.MethodName)) ∈ gT := gT_of (tb_4 _ (List.mem_of_getElem? (i := 198) rfl)) rfl
theorem kw_4_201 : (Jvm.Cond.code ({ cls := "ParishUnion$Person", name := "beginWeek", desc := "()V" } : Jvm.MethodName) prog_8_method_4_code (1 : Nat) (Option.none : Option Jvm.ClassFile.FieldType)) ∈ gT := gT_of (tb_4 _ (List.mem_of_getElem? (i := 201) rfl)) rfl
theorem okX6_beginWeek : gQok yX6_beginWeek cX6_beginWeek 1 (Option.none : Option Jvm.ClassFile.FieldType) 0 := ⟨kw_4_201, kw_1_8, by decide +kernel, by decide +kernel, by decide +kernel⟩
theorem kw_4_199 : (Jvm.Cond.instanceMethod ({ cls := "ParishUnion$Person", name := "beginWeek", desc := "()V" } : Jvm.MethodName)) ∈ gT := gT_of (tb_4 _ (List.mem_of_getElem? (i := 199) rfl)) rfl
theorem kw_4_200 : (Jvm.Cond.selects "ParishUnion$Person" ({ cls := "ParishUnion$Person", name := "beginWeek", desc := "()V" } : Jvm.MethodName) ({ cls := "ParishUnion$Person", name := "beginWeek", desc := "()V" } : Jvm.MethodName)) ∈ gT := gT_of (tb_4 _ (List.mem_of_getElem? (i := 200) rfl)) rfl
theorem dX9_growHungry_34 : decode cX9_growHungry 34 = .ok (.aload_n 3, 1) := dc_45 (by decide +kernel)
theorem dX9_growHungry_35 : decode cX9_growHungry 35 = .ok (.invokevirtual 226, 3) := dc_182 0 226 (by decide +kernel)
theorem kw_4_202 : (Jvm.Cond.methodLink "ParishUnion$Union" (226 : Nat) ({ cls := "ParishUnion$Person", name := "isAtParish", desc := "()Z" } : Jvm.MethodName)) ∈ gT := gT_of (tb_4 _ (List.mem_of_getElem? (i := 202) rfl)) rfl
theorem dX9_growHungry_38 : decode cX9_growHungry 38 = .ok (.ifCond .eq 78, 3) := dc_153 0 78 78 (by decide +kernel)
theorem dX9_growHungry_116 : decode cX9_growHungry 116 = .ok (.iinc 2 1, 3) := dc_132 2 1 1 (by decide +kernel)
theorem dX9_growHungry_119 : decode cX9_growHungry 119 = .ok (.goto (-104), 3) := dc_167 255 152 (-104) (by decide +kernel)
theorem dX9_growHungry_41 : decode cX9_growHungry 41 = .ok (.aload_n 3, 1) := dc_45 (by decide +kernel)
theorem dX9_growHungry_42 : decode cX9_growHungry 42 = .ok (.iconst 0, 1) := dc_3 (by decide +kernel)
theorem dX9_growHungry_43 : decode cX9_growHungry 43 = .ok (.aload_n 3, 1) := dc_45 (by decide +kernel)
theorem dX9_growHungry_44 : decode cX9_growHungry 44 = .ok (.getfield 213, 3) := dc_180 0 213 (by decide +kernel)
theorem kw_1_199 : (Jvm.Cond.fieldLink "ParishUnion$Union" (213 : Nat) "ParishUnion$Person" "hunger" "I") ∈ gT := gT_of (tb_1 _ (List.mem_of_getElem? (i := 199) rfl)) rfl
theorem dX9_growHungry_47 : decode cX9_growHungry 47 = .ok (.iconst 1, 1) := dc_4 (by decide +kernel)
theorem dX9_growHungry_48 : decode cX9_growHungry 48 = .ok (.iadd, 1) := dc_96 (by decide +kernel)
theorem dX9_growHungry_49 : decode cX9_growHungry 49 = .ok (.iload_n 1, 1) := dc_27 (by decide +kernel)
theorem dX9_growHungry_50 : decode cX9_growHungry 50 = .ok (.iconst 3, 1) := dc_6 (by decide +kernel)
theorem dX9_growHungry_51 : decode cX9_growHungry 51 = .ok (.idiv, 1) := dc_108 (by decide +kernel)
theorem dX9_growHungry_52 : decode cX9_growHungry 52 = .ok (.iadd, 1) := dc_96 (by decide +kernel)
theorem dX9_growHungry_53 : decode cX9_growHungry 53 = .ok (.aload_n 3, 1) := dc_45 (by decide +kernel)
theorem dX9_growHungry_54 : decode cX9_growHungry 54 = .ok (.getfield 230, 3) := dc_180 0 230 (by decide +kernel)
theorem kw_1_190 : (Jvm.Cond.fieldLink "ParishUnion$Union" (230 : Nat) "ParishUnion$Person" "strength" "I") ∈ gT := gT_of (tb_1 _ (List.mem_of_getElem? (i := 190) rfl)) rfl
theorem dX9_growHungry_57 : decode cX9_growHungry 57 = .ok (.iconst 4, 1) := dc_7 (by decide +kernel)
theorem dX9_growHungry_58 : decode cX9_growHungry 58 = .ok (.idiv, 1) := dc_108 (by decide +kernel)
theorem dX9_growHungry_59 : decode cX9_growHungry 59 = .ok (.isub, 1) := dc_100 (by decide +kernel)
theorem dX9_growHungry_60 : decode cX9_growHungry 60 = .ok (.invokestatic 233, 3) := dc_184 0 233 (by decide +kernel)
theorem kw_4_203 : (Jvm.Cond.methodLink "ParishUnion$Union" (233 : Nat) ({ cls := "java/lang/Math", name := "max", desc := "(II)I" } : Jvm.MethodName)) ∈ gT := gT_of (tb_4 _ (List.mem_of_getElem? (i := 203) rfl)) rfl
theorem kw_3_153 : (Jvm.Cond.static ({ cls := "java/lang/Math", name := "max", desc := "(II)I" } : Jvm.MethodName)) ∈ gT := gT_of (tb_3 _ (List.mem_of_getElem? (i := 153) rfl)) rfl
theorem kw_3_154 : (Jvm.Cond.code ({ cls := "java/lang/Math", name := "max", desc := "(II)I" } : Jvm.MethodName) prog_16_method_65_code (2 : Nat) (Option.some Jvm.ClassFile.FieldType.int)) ∈ gT := gT_of (tb_3 _ (List.mem_of_getElem? (i := 154) rfl)) rfl
theorem dX9_growHungry_63 : decode cX9_growHungry 63 = .ok (.putfield 213, 3) := dc_181 0 213 (by decide +kernel)
theorem dX9_growHungry_66 : decode cX9_growHungry 66 = .ok (.aload_n 0, 1) := dc_42 (by decide +kernel)
theorem dX9_growHungry_67 : decode cX9_growHungry 67 = .ok (.bipush 8, 2) := dc_16 8 8 (by decide +kernel)
theorem dX9_growHungry_69 : decode cX9_growHungry 69 = .ok (.aload_n 3, 1) := dc_45 (by decide +kernel)
theorem dX9_growHungry_70 : decode cX9_growHungry 70 = .ok (.invokevirtual 236, 3) := dc_182 0 236 (by decide +kernel)
theorem kw_4_204 : (Jvm.Cond.methodLink "ParishUnion$Union" (236 : Nat) ({ cls := "ParishUnion$Union", name := "firstClause", desc := "(ILParishUnion$Person;)I" } : Jvm.MethodName)) ∈ gT := gT_of (tb_4 _ (List.mem_of_getElem? (i := 204) rfl)) rfl
theorem kw_4_104 : (Jvm.Cond.code ({ cls := "ParishUnion$Union", name := "firstClause", desc := "(ILParishUnion$Person;)I" } : Jvm.MethodName) prog_11_method_6_code (6 : Nat) (Option.some Jvm.ClassFile.FieldType.int)) ∈ gT := gT_of (tb_4 _ (List.mem_of_getElem? (i := 104) rfl)) rfl
theorem okX9_firstClause : gQok yX9_firstClause cX9_firstClause 6 (Option.some Jvm.ClassFile.FieldType.int) 2 := ⟨kw_4_104, kw_1_2, by decide +kernel, by decide +kernel, by decide +kernel⟩
theorem kw_4_102 : (Jvm.Cond.instanceMethod ({ cls := "ParishUnion$Union", name := "firstClause", desc := "(ILParishUnion$Person;)I" } : Jvm.MethodName)) ∈ gT := gT_of (tb_4 _ (List.mem_of_getElem? (i := 102) rfl)) rfl
theorem kw_4_103 : (Jvm.Cond.selects "ParishUnion$Union" ({ cls := "ParishUnion$Union", name := "firstClause", desc := "(ILParishUnion$Person;)I" } : Jvm.MethodName) ({ cls := "ParishUnion$Union", name := "firstClause", desc := "(ILParishUnion$Person;)I" } : Jvm.MethodName)) ∈ gT := gT_of (tb_4 _ (List.mem_of_getElem? (i := 103) rfl)) rfl
theorem dX9_growHungry_73 : decode cX9_growHungry 73 = .ok (.istore 4, 2) := dc_54 4 (by decide +kernel)
theorem dX9_growHungry_75 : decode cX9_growHungry 75 = .ok (.iload 4, 2) := dc_21 4 (by decide +kernel)
theorem dX9_growHungry_77 : decode cX9_growHungry 77 = .ok (.bipush (-5), 2) := dc_16 251 (-5) (by decide +kernel)
theorem dX9_growHungry_79 : decode cX9_growHungry 79 = .ok (.if_icmp .eq 37, 3) := dc_159 0 37 37 (by decide +kernel)
theorem dX9_growHungry_82 : decode cX9_growHungry 82 = .ok (.aload_n 3, 1) := dc_45 (by decide +kernel)
theorem dX9_growHungry_83 : decode cX9_growHungry 83 = .ok (.iload 4, 2) := dc_21 4 (by decide +kernel)
theorem dX9_growHungry_85 : decode cX9_growHungry 85 = .ok (.putfield 240, 3) := dc_181 0 240 (by decide +kernel)
theorem kw_1_219 : (Jvm.Cond.fieldLink "ParishUnion$Union" (240 : Nat) "ParishUnion$Person" "given" "I") ∈ gT := gT_of (tb_1 _ (List.mem_of_getElem? (i := 219) rfl)) rfl
theorem dX9_growHungry_88 : decode cX9_growHungry 88 = .ok (.aload_n 3, 1) := dc_45 (by decide +kernel)
theorem dX9_growHungry_89 : decode cX9_growHungry 89 = .ok (.iconst 0, 1) := dc_3 (by decide +kernel)
theorem dX9_growHungry_90 : decode cX9_growHungry 90 = .ok (.aload_n 3, 1) := dc_45 (by decide +kernel)
theorem dX9_growHungry_91 : decode cX9_growHungry 91 = .ok (.getfield 213, 3) := dc_180 0 213 (by decide +kernel)
theorem dX9_growHungry_94 : decode cX9_growHungry 94 = .ok (.iconst 2, 1) := dc_5 (by decide +kernel)
theorem dX9_growHungry_95 : decode cX9_growHungry 95 = .ok (.isub, 1) := dc_100 (by decide +kernel)
theorem dX9_growHungry_96 : decode cX9_growHungry 96 = .ok (.invokestatic 233, 3) := dc_184 0 233 (by decide +kernel)
theorem dX9_growHungry_99 : decode cX9_growHungry 99 = .ok (.putfield 213, 3) := dc_181 0 213 (by decide +kernel)
theorem dX9_growHungry_102 : decode cX9_growHungry 102 = .ok (.aload_n 0, 1) := dc_42 (by decide +kernel)
theorem dX9_growHungry_103 : decode cX9_growHungry 103 = .ok (.getfield 57, 3) := dc_180 0 57 (by decide +kernel)
theorem dX9_growHungry_106 : decode cX9_growHungry 106 = .ok (.aload_n 0, 1) := dc_42 (by decide +kernel)
theorem dX9_growHungry_107 : decode cX9_growHungry 107 = .ok (.getfield 110, 3) := dc_180 0 110 (by decide +kernel)
theorem dX9_growHungry_110 : decode cX9_growHungry 110 = .ok (.iconst 1, 1) := dc_4 (by decide +kernel)
theorem dX9_growHungry_111 : decode cX9_growHungry 111 = .ok (.iload 4, 2) := dc_21 4 (by decide +kernel)
theorem dX9_growHungry_113 : decode cX9_growHungry 113 = .ok (.invokevirtual 243, 3) := dc_182 0 243 (by decide +kernel)
theorem kw_4_205 : (Jvm.Cond.methodLink "ParishUnion$Union" (243 : Nat) ({ cls := "ParishUnion$Past", name := "add", desc := "(III)V" } : Jvm.MethodName)) ∈ gT := gT_of (tb_4 _ (List.mem_of_getElem? (i := 205) rfl)) rfl
abbrev R_X9_growHungry : Room := { frames := 4, cells := 0, slots := 0, locals := 120 }
set_option maxRecDepth 100000 in
set_option maxHeartbeats 4000000 in
theorem s_X9_growHungry {l : Launch} {n0 : Nat} {D : va_G} {cA : Nat → ClassId} {M : gM}  {sz : Nat} (hsz : 206 ≤ sz) (I : gI sz M) (C : gC sz M) (q_1_15 : 0 ≤ M 1 15 ∧ M 1 15 ≤ 299)  : Met l yX9_growHungry (gWsOf yX9_growHungry cX9_growHungry 5 (Option.none : Option Jvm.ClassFile.FieldType)) R_X9_growHungry (gPc n0 D cA [gA n0 1] M sz) (gQv n0 D cA sz (fun M1 => gI sz M1 ∧ gC sz M1 ∧ gFr 65616 M M1)) 0 0 (fun q => n0 ≤ q) := by
  refine gMetV [gA n0 1] (by decide) (Nat.le_of_ble_eq_true rfl) ⟨rfl, rfl⟩ ?_
  intro p e s m args below meth cd Q X hq
  have X : gCx p s m args meth cd n0 D cA "ParishUnion$Union" cX9_growHungry 5 := X
  show G p l e R_X9_growHungry s m args below meth cd n0 D cA 5 Q 0 0 M sz 0 [(0, gA n0 1)] []
  obtain ⟨v1, hv1, rv1⟩ := gRd I (by decide) (gsz hsz (by decide)) rc_1_15.1
  refine g_aload_n (n := 1) X 0 dX9_growHungry_0 rfl rfl rfl ?_
  refine gg_9_6 (n := 4) (z := 15) X (by decide) (gsz hsz (by decide)) lay_1 kw_2_118 dX9_growHungry_1 rfl (rf_1_6 I (gsz hsz (by decide))) (by decide) ?_
  refine gg_2_1 (n := 7) (z := 17) X (by decide) (gsz hsz (by decide)) lay_15 kw_1_99 dX9_growHungry_4 rfl (rf_15_1 I (gsz hsz (by decide))) (by decide) ?_
  refine g_aload_n (n := 8) X 0 dX9_growHungry_7 rfl rfl rfl ?_
  refine gg_9_15 (n := 11) (z := v1) X (by decide) (gsz hsz (by decide)) lay_1 kw_2_138 dX9_growHungry_8 rfl hv1 ?_
  obtain ⟨v2, hv2, rv2⟩ := gRd I (by decide) (gsz hsz (by decide)) (ra_17 v1).1
  refine g_iald2 (n := 12) (v := v2) X (by decide) (gsz hsz (by decide)) lay_17 (by omega) (by omega) (by decide) dX9_growHungry_11 rfl hv2 ?_
  refine g_istore_n (n := 13) (L' := [(1, gJ v2), (0, gA n0 1)]) X dX9_growHungry_12 rfl (by decide) rfl rfl ?_
  refine g_iconst (n := 14) X dX9_growHungry_13 rfl ?_
  refine g_istore_n (n := 15) (L' := [(2, gJ 0), (1, gJ v2), (0, gA n0 1)]) X dX9_growHungry_14 rfl (by decide) rfl rfl ?_
  have j5 : ∀ (N435 : Nat) (v3 : Int) (M4 : gM) , (0 ≤ v3 ∧ v3 ≤ 16) → gI sz M4 → gC sz M4 → gFr 65616 M M4 → (16 - v3).toNat < N435 → G p l e R_X9_growHungry s m args below meth cd n0 D cA 5 Q 0 0 M4 sz 15 [(0, gA n0 1), (1, gJ v2), (2, gJ v3)] [] := by
    intro N435; induction N435 with
    | zero => intro v3 M4 rv3 IM4 CM4 FM4 hm437; exfalso; omega
    | succ N435 ih436 =>
      intro v3 M4 rv3 IM4 CM4 FM4 hm437
      refine g_iload_n (n := 16) X 2 dX9_growHungry_15 rfl rfl rfl ?_
      refine g_aload_n (n := 17) X 0 dX9_growHungry_16 rfl rfl rfl ?_
      obtain ⟨v438, hv438, rv438⟩ := gRd IM4 (by decide) (gsz hsz (by decide)) rc_1_10.1
      refine gg_9_10 (n := 20) (z := v438) X (by decide) (gsz hsz (by decide)) lay_1 kw_2_126 dX9_growHungry_17 rfl hv438 ?_
      refine g_icmp_ge (n := 23) (tgt := 122) X dX9_growHungry_20 (by decide) (by omega) (by omega) rfl (fun c439 => ?_) (fun c439 => ?_)
      · exact hq _ _ _ dX9_growHungry_122 ⟨IM4, CM4, (gFr.c gFr.rf FM4 rfl)⟩
      · refine g_aload_n (n := 24) X 0 dX9_growHungry_23 rfl rfl rfl ?_
        refine gg_9_1 (n := 27) (z := 5) X (by decide) (gsz hsz (by decide)) lay_1 kw_2_106 dX9_growHungry_24 rfl (rf_1_1 IM4 (gsz hsz (by decide))) (by decide) ?_
        refine g_iload_n (n := 28) X 2 dX9_growHungry_27 rfl rfl rfl ?_
        obtain ⟨o440, ho440, ro440⟩ : ∃ o : Int, o = 31 + v3 ∧ (31 ≤ o ∧ o < 47) := ⟨_, rfl, by omega⟩
        refine g_aald6 (n := 29) (t := o440) X (by decide) (gsz hsz (by decide)) lay_5 (by omega) (by omega) (by decide) (gA5 IM4 hsz (by omega) (by omega) (by omega)) (by omega) dX9_growHungry_28 rfl ?_
        refine g_astore_n (n := 30) (L' := [(3, gA n0 o440), (0, gA n0 1), (1, gJ v2), (2, gJ v3)]) X dX9_growHungry_29 rfl (by decide) rfl rfl ?_
        refine g_aload_n (n := 31) X 0 dX9_growHungry_30 rfl rfl rfl ?_
        refine g_callVv (n := 34) (As := []) (rest := []) (cs1 := 0) (ss1 := 0) X (s_X6_beginWeek o440 ro440 hsz IM4 CM4 ) okX6_beginWeek kw_4_198 ⟨kw_4_199, kw_4_200⟩ ⟨rfl, rfl⟩ ⟨Nat.le_of_ble_eq_true rfl, Nat.le_of_ble_eq_true rfl⟩ rfl (Po0 ro440) (Posz hsz ro440) (lay2_P ro440) rfl rfl (Nat.le_of_ble_eq_true rfl) ⟨Nat.le_of_ble_eq_true rfl, Nat.le_of_ble_eq_true rfl⟩ rfl rfl dX9_growHungry_31 rfl (fun M442 P443 => ?_)
        obtain ⟨M444, e445, M446, e447, M448, e449, rfl⟩ := P443
        have IM444 : gI sz M444 := gI.set IM4 (rP_12 ro440).1 (by omega) e445
        have CM444 : gC sz M444 := gC.set CM4 (rP_12 ro440).2.1 e445
        have IM446 : gI sz M446 := gI.set IM444 (rP_13 ro440).1 (by omega) e447
        have CM446 : gC sz M446 := gC.set CM444 (rP_13 ro440).2.1 e447
        have IM448 : gI sz M448 := gI.set IM446 (rP_14 ro440).1 (by omega) e449
        have CM448 : gC sz M448 := gC.set CM446 (rP_14 ro440).2.1 e449
        refine g_aload_n (n := 35) X 0 dX9_growHungry_34 rfl rfl rfl ?_
        refine g_callVi (n := 38) (As := []) (rest := []) (cs1 := 0) (ss1 := 0) X (s_X6_isAtParish o440 ro440 hsz IM448 CM448 ) okX6_isAtParish kw_4_202 ⟨kw_4_122, kw_4_123⟩ ⟨rfl, rfl⟩ ⟨Nat.le_of_ble_eq_true rfl, Nat.le_of_ble_eq_true rfl⟩ rfl (Po0 ro440) (Posz hsz ro440) (lay2_P ro440) rfl rfl (Nat.le_of_ble_eq_true rfl) ⟨Nat.le_of_ble_eq_true rfl, Nat.le_of_ble_eq_true rfl⟩ rfl rfl dX9_growHungry_35 rfl (fun v450 M451 P452 => ?_)
        obtain ⟨rfl, rv450, xv450⟩ := P452
        obtain ⟨v453, hv453, rv453⟩ := gRd IM448 (Po0 ro440) (Posz hsz ro440) (rP_5 ro440).1
        refine g_if_eq (n := 41) (tgt := 116) X dX9_growHungry_38 (by decide) (by omega) rfl (fun c454 => ?_) (fun c454 => ?_)
        · refine g_iinc (n := 119) (w := v3 + 1) (L' := [(2, gJ (v3 + 1)), (3, gA n0 o440), (0, gA n0 1), (1, gJ v2)]) X 3 dX9_growHungry_116 rfl rfl (by decide) rfl rfl ?_
          refine g_goto (tgt := 15) X dX9_growHungry_119 (by decide) ?_
          refine G.sub (L' := [(0, gA n0 1), (1, gJ v2), (2, gJ (v3 + 1))]) [2, 3, 0] rfl ?_
          exact ih436 (v3 + 1) M448 (by omega) IM448 CM448 (gFr.s (gFr.s (gFr.s (gFr.c gFr.rf FM4 rfl) e445 (rP_12 ro440).2.2 rfl) e447 (rP_13 ro440).2.2 rfl) e449 (rP_14 ro440).2.2 rfl) (by omega)
        · refine g_aload_n (n := 42) X 0 dX9_growHungry_41 rfl rfl rfl ?_
          refine g_iconst (n := 43) X dX9_growHungry_42 rfl ?_
          refine g_aload_n (n := 44) X 0 dX9_growHungry_43 rfl rfl rfl ?_
          obtain ⟨v455, hv455, rv455⟩ := gRd IM448 (Po0 ro440) (Posz hsz ro440) (rP_6 ro440).1
          refine gg_6_6 (n := 47) (z := v455) X (Po0 ro440) (Posz hsz ro440) (lay2_P ro440) kw_1_199 dX9_growHungry_44 rfl hv455 ?_
          refine g_iconst (n := 48) X dX9_growHungry_47 rfl ?_
          refine g_iaddA (n := 49) X dX9_growHungry_48 rfl (fun v456 rv456 xv456 => ?_)
          clear xv456
          refine g_iload_n (n := 50) X 2 dX9_growHungry_49 rfl rfl rfl ?_
          refine g_iconst (n := 51) X dX9_growHungry_50 rfl ?_
          refine g_idivA (n := 52) X dX9_growHungry_51 (by decide +kernel) rfl (fun v457 rv457 xv457 => ?_)
          clear xv457
          refine g_iaddA (n := 53) X dX9_growHungry_52 rfl (fun v458 rv458 xv458 => ?_)
          clear xv458
          refine g_aload_n (n := 54) X 0 dX9_growHungry_53 rfl rfl rfl ?_
          obtain ⟨v459, hv459, rv459⟩ := gRd IM448 (Po0 ro440) (Posz hsz ro440) (rP_4 ro440).1
          refine gg_6_4 (n := 57) (z := v459) X (Po0 ro440) (Posz hsz ro440) (lay2_P ro440) kw_1_190 dX9_growHungry_54 rfl hv459 ?_
          refine g_iconst (n := 58) X dX9_growHungry_57 rfl ?_
          refine g_idivA (n := 59) X dX9_growHungry_58 (by decide +kernel) rfl (fun v460 rv460 xv460 => ?_)
          clear xv460
          refine g_isubA (n := 60) X dX9_growHungry_59 rfl (fun v461 rv461 xv461 => ?_)
          clear xv461
          refine g_mmax (n := 63) X kw_4_203 kw_3_153 kw_1_14 kw_3_154 (by omega) (by omega) (Nat.le_of_ble_eq_true rfl) (Nat.le_of_ble_eq_true rfl) (Nat.le_of_ble_eq_true rfl) (Nat.le_of_ble_eq_true rfl) dX9_growHungry_60 rfl (fun x462 hx462 => ?_)
          have rx462 : 0 ≤ x462 ∧ x462 ≤ 2147483647 := by omega
          refine gp_6_6 (n := 66) X (Po0 ro440) (Posz hsz ro440) (lay2_P ro440) kw_1_199 dX9_growHungry_63 rfl ?_
          refine G.nm (fun M463 e464 => ?_)
          have IM463 : gI sz M463 := gI.set IM448 (rP_6 ro440).1 (by omega) e464
          have CM463 : gC sz M463 := gC.set CM448 (rP_6 ro440).2.1 e464
          refine g_aload_n (n := 67) X 1 dX9_growHungry_66 rfl rfl rfl ?_
          refine g_bipush (n := 69) X dX9_growHungry_67 (by decide +kernel) rfl ?_
          refine g_aload_n (n := 70) X 0 dX9_growHungry_69 rfl rfl rfl ?_
          refine g_callVi (n := 73) (As := [gJ 8, gA n0 o440]) (rest := []) (cs1 := 0) (ss1 := 0) X (s_X9_firstClause 8 (by omega) o440 ro440 hsz IM463 CM463 ) okX9_firstClause kw_4_204 ⟨kw_4_102, kw_4_103⟩ ⟨rfl, rfl⟩ ⟨Nat.le_of_ble_eq_true rfl, Nat.le_of_ble_eq_true rfl⟩ rfl (by decide) (gsz hsz (by decide)) lay_1 rfl rfl (Nat.le_of_ble_eq_true rfl) ⟨Nat.le_of_ble_eq_true rfl, Nat.le_of_ble_eq_true rfl⟩ rfl rfl dX9_growHungry_70 rfl (fun v465 M466 P467 => ?_)
          obtain ⟨rfl, rv465, xv465⟩ := P467
          refine g_istore (n := 75) (L' := [(4, gJ v465), (3, gA n0 o440), (0, gA n0 1), (1, gJ v2), (2, gJ v3)]) X dX9_growHungry_73 (by decide) rfl rfl ?_
          refine g_iload (n := 77) X 0 dX9_growHungry_75 rfl rfl ?_
          refine g_bipush (n := 79) X dX9_growHungry_77 (by decide +kernel) rfl ?_
          refine g_icmp_eq (n := 82) (tgt := 116) X dX9_growHungry_79 (by decide) (by omega) (by omega) rfl (fun c468 => ?_) (fun c468 => ?_)
          · refine g_iinc (n := 119) (w := v3 + 1) (L' := [(2, gJ (v3 + 1)), (4, gJ v465), (3, gA n0 o440), (0, gA n0 1), (1, gJ v2)]) X 4 dX9_growHungry_116 rfl rfl (by decide) rfl rfl ?_
            refine g_goto (tgt := 15) X dX9_growHungry_119 (by decide) ?_
            refine G.sub (L' := [(0, gA n0 1), (1, gJ v2), (2, gJ (v3 + 1))]) [3, 4, 0] rfl ?_
            exact ih436 (v3 + 1) M463 (by omega) IM463 CM463 (gFr.s (gFr.s (gFr.s (gFr.s (gFr.c gFr.rf FM4 rfl) e445 (rP_12 ro440).2.2 rfl) e447 (rP_13 ro440).2.2 rfl) e449 (rP_14 ro440).2.2 rfl) e464 (rP_6 ro440).2.2 rfl) (by omega)
          · refine g_aload_n (n := 83) X 1 dX9_growHungry_82 rfl rfl rfl ?_
            refine g_iload (n := 85) X 0 dX9_growHungry_83 rfl rfl ?_
            refine gp_6_13 (n := 88) X (Po0 ro440) (Posz hsz ro440) (lay2_P ro440) kw_1_219 dX9_growHungry_85 rfl ?_
            refine G.nm (fun M469 e470 => ?_)
            have IM469 : gI sz M469 := gI.set IM463 (rP_13 ro440).1 (by omega) e470
            have CM469 : gC sz M469 := gC.set CM463 (rP_13 ro440).2.1 e470
            refine g_aload_n (n := 89) X 1 dX9_growHungry_88 rfl rfl rfl ?_
            refine g_iconst (n := 90) X dX9_growHungry_89 rfl ?_
            refine g_aload_n (n := 91) X 1 dX9_growHungry_90 rfl rfl rfl ?_
            refine gg_6_6 (n := 94) (z := x462) X (Po0 ro440) (Posz hsz ro440) (lay2_P ro440) kw_1_199 dX9_growHungry_91 rfl ((congrFun (congrFun e470 _) _).trans ((gset_ne (by omega)).trans ((congrFun (congrFun e464 _) _).trans (gset_eq _ _ _ _)))) ?_
            refine g_iconst (n := 95) X dX9_growHungry_94 rfl ?_
            refine g_isub (n := 96) (z := x462 - 2) X dX9_growHungry_95 (by omega) rfl ?_
            refine g_mmax (n := 99) X kw_4_203 kw_3_153 kw_1_14 kw_3_154 (by omega) (by omega) (Nat.le_of_ble_eq_true rfl) (Nat.le_of_ble_eq_true rfl) (Nat.le_of_ble_eq_true rfl) (Nat.le_of_ble_eq_true rfl) dX9_growHungry_96 rfl (fun x471 hx471 => ?_)
            have rx471 : 0 ≤ x471 ∧ x471 ≤ 2147483645 := by omega
            refine gp_6_6 (n := 102) X (Po0 ro440) (Posz hsz ro440) (lay2_P ro440) kw_1_199 dX9_growHungry_99 rfl ?_
            refine G.nm (fun M472 e473 => ?_)
            have IM472 : gI sz M472 := gI.set IM469 (rP_6 ro440).1 (by omega) e473
            have CM472 : gC sz M472 := gC.set CM469 (rP_6 ro440).2.1 e473
            refine g_aload_n (n := 103) X 2 dX9_growHungry_102 rfl rfl rfl ?_
            refine gg_9_7 (n := 106) (z := 23) X (by decide) (gsz hsz (by decide)) lay_1 kw_2_120 dX9_growHungry_103 rfl (rf_1_7 IM472 (gsz hsz (by decide))) (by decide) ?_
            refine g_aload_n (n := 107) X 2 dX9_growHungry_106 rfl rfl rfl ?_
            refine gg_9_15 (n := 110) (z := v1) X (by decide) (gsz hsz (by decide)) lay_1 kw_2_138 dX9_growHungry_107 rfl ((congrFun (congrFun e473 _) _).trans ((gset_ne (by omega)).trans ((congrFun (congrFun e470 _) _).trans ((gset_ne (by omega)).trans ((congrFun (congrFun e464 _) _).trans ((gset_ne (by omega)).trans ((congrFun (congrFun e449 _) _).trans ((gset_ne (by omega)).trans ((congrFun (congrFun e447 _) _).trans ((gset_ne (by omega)).trans ((congrFun (congrFun e445 _) _).trans ((gset_ne (by omega)).trans ((gFr.at FM4 rc_1_15.2.2 rfl).trans hv1))))))))))))) ?_
            refine g_iconst (n := 111) X dX9_growHungry_110 rfl ?_
            refine g_iload (n := 113) X 0 dX9_growHungry_111 rfl rfl ?_
            refine g_callVv (n := 116) (As := [gJ v1, gJ 1, gJ v465]) (rest := []) (cs1 := 0) (ss1 := 0) X (s_X5_add v1 (by omega) 1 (by omega) v465 (by omega) hsz IM472 CM472 ) okX5_add kw_4_205 ⟨kw_4_206, kw_4_207⟩ ⟨rfl, rfl⟩ ⟨Nat.le_of_ble_eq_true rfl, Nat.le_of_ble_eq_true rfl⟩ rfl (by decide) (gsz hsz (by decide)) lay_23 rfl rfl (Nat.le_of_ble_eq_true rfl) ⟨Nat.le_of_ble_eq_true rfl, Nat.le_of_ble_eq_true rfl⟩ rfl rfl dX9_growHungry_113 rfl (fun M475 P476 => ?_)
            obtain ⟨IM475, CM475, FM475⟩ := P476
            refine g_iinc (n := 119) (w := v3 + 1) (L' := [(2, gJ (v3 + 1)), (4, gJ v465), (3, gA n0 o440), (0, gA n0 1), (1, gJ v2)]) X 4 dX9_growHungry_116 rfl rfl (by decide) rfl rfl ?_
            refine g_goto (tgt := 15) X dX9_growHungry_119 (by decide) ?_
            refine G.sub (L' := [(0, gA n0 1), (1, gJ v2), (2, gJ (v3 + 1))]) [3, 4, 0] rfl ?_
            exact ih436 (v3 + 1) M475 (by omega) IM475 CM475 (gFr.c (gFr.s (gFr.s (gFr.s (gFr.s (gFr.s (gFr.s (gFr.c gFr.rf FM4 rfl) e445 (rP_12 ro440).2.2 rfl) e447 (rP_13 ro440).2.2 rfl) e449 (rP_14 ro440).2.2 rfl) e464 (rP_6 ro440).2.2 rfl) e470 (rP_13 ro440).2.2 rfl) e473 (rP_6 ro440).2.2 rfl) FM475 rfl) (by omega)
  refine G.sub (L' := [(0, gA n0 1), (1, gJ v2), (2, gJ 0)]) [2, 1, 0] rfl ?_
  exact j5 _ 0 M (by omega) I C gFr.rf (Nat.lt_succ_self _)
theorem dX9_askAtHouse_0 : decode cX9_askAtHouse 0 = .ok (.aload_n 0, 1) := dc_42 (by decide +kernel)
theorem dX9_askAtHouse_1 : decode cX9_askAtHouse 1 = .ok (.iconst 3, 1) := dc_6 (by decide +kernel)
theorem dX9_askAtHouse_2 : decode cX9_askAtHouse 2 = .ok (.aload_n 0, 1) := dc_42 (by decide +kernel)
theorem dX9_askAtHouse_3 : decode cX9_askAtHouse 3 = .ok (.getfield 110, 3) := dc_180 0 110 (by decide +kernel)
theorem dX9_askAtHouse_6 : decode cX9_askAtHouse 6 = .ok (.invokevirtual 247, 3) := dc_182 0 247 (by decide +kernel)
theorem kw_4_213 : (Jvm.Cond.methodLink "ParishUnion$Union" (247 : Nat) ({ cls := "ParishUnion$Union", name := "law", desc := "(II)I" } : Jvm.MethodName)) ∈ gT := gT_of (tb_4 _ (List.mem_of_getElem? (i := 213) rfl)) rfl
theorem kw_3_140 : (Jvm.Cond.code ({ cls := "ParishUnion$Union", name := "law", desc := "(II)I" } : Jvm.MethodName) prog_11_method_5_code (4 : Nat) (Option.some Jvm.ClassFile.FieldType.int)) ∈ gT := gT_of (tb_3 _ (List.mem_of_getElem? (i := 140) rfl)) rfl
theorem okX9_law : gQok yX9_law cX9_law 4 (Option.some Jvm.ClassFile.FieldType.int) 2 := ⟨kw_3_140, kw_1_2, by decide +kernel, by decide +kernel, by decide +kernel⟩
theorem kw_3_138 : (Jvm.Cond.instanceMethod ({ cls := "ParishUnion$Union", name := "law", desc := "(II)I" } : Jvm.MethodName)) ∈ gT := gT_of (tb_3 _ (List.mem_of_getElem? (i := 138) rfl)) rfl
theorem kw_3_139 : (Jvm.Cond.selects "ParishUnion$Union" ({ cls := "ParishUnion$Union", name := "law", desc := "(II)I" } : Jvm.MethodName) ({ cls := "ParishUnion$Union", name := "law", desc := "(II)I" } : Jvm.MethodName)) ∈ gT := gT_of (tb_3 _ (List.mem_of_getElem? (i := 139) rfl)) rfl
theorem dX9_askAtHouse_9 : decode cX9_askAtHouse 9 = .ok (.istore_n 1, 1) := dc_60 (by decide +kernel)
theorem dX9_askAtHouse_10 : decode cX9_askAtHouse 10 = .ok (.iconst 0, 1) := dc_3 (by decide +kernel)
theorem dX9_askAtHouse_11 : decode cX9_askAtHouse 11 = .ok (.istore_n 2, 1) := dc_61 (by decide +kernel)
theorem dX9_askAtHouse_12 : decode cX9_askAtHouse 12 = .ok (.iload_n 2, 1) := dc_28 (by decide +kernel)
theorem dX9_askAtHouse_13 : decode cX9_askAtHouse 13 = .ok (.aload_n 0, 1) := dc_42 (by decide +kernel)
theorem dX9_askAtHouse_14 : decode cX9_askAtHouse 14 = .ok (.getfield 79, 3) := dc_180 0 79 (by decide +kernel)
theorem dX9_askAtHouse_17 : decode cX9_askAtHouse 17 = .ok (.if_icmp .ge 137, 3) := dc_162 0 137 137 (by decide +kernel)
theorem dX9_askAtHouse_154 : decode cX9_askAtHouse 154 = .ok (.return_, 1) := dc_177 (by decide +kernel)
theorem dX9_askAtHouse_20 : decode cX9_askAtHouse 20 = .ok (.aload_n 0, 1) := dc_42 (by decide +kernel)
theorem dX9_askAtHouse_21 : decode cX9_askAtHouse 21 = .ok (.getfield 20, 3) := dc_180 0 20 (by decide +kernel)
theorem dX9_askAtHouse_24 : decode cX9_askAtHouse 24 = .ok (.iload_n 2, 1) := dc_28 (by decide +kernel)
theorem dX9_askAtHouse_25 : decode cX9_askAtHouse 25 = .ok (.aaload, 1) := dc_50 (by decide +kernel)
theorem dX9_askAtHouse_26 : decode cX9_askAtHouse 26 = .ok (.astore_n 3, 1) := dc_78 (by decide +kernel)
theorem dX9_askAtHouse_27 : decode cX9_askAtHouse 27 = .ok (.aload_n 3, 1) := dc_45 (by decide +kernel)
theorem dX9_askAtHouse_28 : decode cX9_askAtHouse 28 = .ok (.invokevirtual 226, 3) := dc_182 0 226 (by decide +kernel)
theorem dX9_askAtHouse_31 : decode cX9_askAtHouse 31 = .ok (.ifCond .eq 117, 3) := dc_153 0 117 117 (by decide +kernel)
theorem dX9_askAtHouse_148 : decode cX9_askAtHouse 148 = .ok (.iinc 2 1, 3) := dc_132 2 1 1 (by decide +kernel)
theorem dX9_askAtHouse_151 : decode cX9_askAtHouse 151 = .ok (.goto (-139), 3) := dc_167 255 117 (-139) (by decide +kernel)
theorem dX9_askAtHouse_34 : decode cX9_askAtHouse 34 = .ok (.aload_n 3, 1) := dc_45 (by decide +kernel)
theorem dX9_askAtHouse_35 : decode cX9_askAtHouse 35 = .ok (.getfield 213, 3) := dc_180 0 213 (by decide +kernel)
theorem dX9_askAtHouse_38 : decode cX9_askAtHouse 38 = .ok (.iload_n 1, 1) := dc_27 (by decide +kernel)
theorem dX9_askAtHouse_39 : decode cX9_askAtHouse 39 = .ok (.aload_n 0, 1) := dc_42 (by decide +kernel)
theorem dX9_askAtHouse_40 : decode cX9_askAtHouse 40 = .ok (.aload_n 3, 1) := dc_45 (by decide +kernel)
theorem dX9_askAtHouse_41 : decode cX9_askAtHouse 41 = .ok (.getfield 168, 3) := dc_180 0 168 (by decide +kernel)
theorem dX9_askAtHouse_44 : decode cX9_askAtHouse 44 = .ok (.aload_n 0, 1) := dc_42 (by decide +kernel)
theorem dX9_askAtHouse_45 : decode cX9_askAtHouse 45 = .ok (.getfield 110, 3) := dc_180 0 110 (by decide +kernel)
theorem dX9_askAtHouse_48 : decode cX9_askAtHouse 48 = .ok (.invokevirtual 250, 3) := dc_182 0 250 (by decide +kernel)
theorem kw_4_214 : (Jvm.Cond.methodLink "ParishUnion$Union" (250 : Nat) ({ cls := "ParishUnion$Union", name := "newsIn", desc := "(II)I" } : Jvm.MethodName)) ∈ gT := gT_of (tb_4 _ (List.mem_of_getElem? (i := 214) rfl)) rfl
theorem kw_4_174 : (Jvm.Cond.code ({ cls := "ParishUnion$Union", name := "newsIn", desc := "(II)I" } : Jvm.MethodName) prog_11_method_10_code (5 : Nat) (Option.some Jvm.ClassFile.FieldType.int)) ∈ gT := gT_of (tb_4 _ (List.mem_of_getElem? (i := 174) rfl)) rfl
theorem okX9_newsIn : gQok yX9_newsIn cX9_newsIn 5 (Option.some Jvm.ClassFile.FieldType.int) 2 := ⟨kw_4_174, kw_1_2, by decide +kernel, by decide +kernel, by decide +kernel⟩
theorem kw_4_172 : (Jvm.Cond.instanceMethod ({ cls := "ParishUnion$Union", name := "newsIn", desc := "(II)I" } : Jvm.MethodName)) ∈ gT := gT_of (tb_4 _ (List.mem_of_getElem? (i := 172) rfl)) rfl
theorem kw_4_173 : (Jvm.Cond.selects "ParishUnion$Union" ({ cls := "ParishUnion$Union", name := "newsIn", desc := "(II)I" } : Jvm.MethodName) ({ cls := "ParishUnion$Union", name := "newsIn", desc := "(II)I" } : Jvm.MethodName)) ∈ gT := gT_of (tb_4 _ (List.mem_of_getElem? (i := 173) rfl)) rfl
theorem dX9_askAtHouse_51 : decode cX9_askAtHouse 51 = .ok (.iadd, 1) := dc_96 (by decide +kernel)
theorem dX9_askAtHouse_52 : decode cX9_askAtHouse 52 = .ok (.if_icmp .le 96, 3) := dc_164 0 96 96 (by decide +kernel)
theorem dX9_askAtHouse_55 : decode cX9_askAtHouse 55 = .ok (.aload_n 3, 1) := dc_45 (by decide +kernel)
theorem dX9_askAtHouse_56 : decode cX9_askAtHouse 56 = .ok (.iconst 1, 1) := dc_4 (by decide +kernel)
theorem dX9_askAtHouse_57 : decode cX9_askAtHouse 57 = .ok (.putfield 253, 3) := dc_181 0 253 (by decide +kernel)
theorem kw_1_222 : (Jvm.Cond.fieldLink "ParishUnion$Union" (253 : Nat) "ParishUnion$Person" "asked" "Z") ∈ gT := gT_of (tb_1 _ (List.mem_of_getElem? (i := 222) rfl)) rfl
theorem dX9_askAtHouse_60 : decode cX9_askAtHouse 60 = .ok (.aload_n 0, 1) := dc_42 (by decide +kernel)
theorem dX9_askAtHouse_61 : decode cX9_askAtHouse 61 = .ok (.getfield 57, 3) := dc_180 0 57 (by decide +kernel)
theorem dX9_askAtHouse_64 : decode cX9_askAtHouse 64 = .ok (.aload_n 0, 1) := dc_42 (by decide +kernel)
theorem dX9_askAtHouse_65 : decode cX9_askAtHouse 65 = .ok (.getfield 110, 3) := dc_180 0 110 (by decide +kernel)
theorem dX9_askAtHouse_68 : decode cX9_askAtHouse 68 = .ok (.iconst 5, 1) := dc_8 (by decide +kernel)
theorem dX9_askAtHouse_69 : decode cX9_askAtHouse 69 = .ok (.iconst 1, 1) := dc_4 (by decide +kernel)
theorem dX9_askAtHouse_70 : decode cX9_askAtHouse 70 = .ok (.invokevirtual 243, 3) := dc_182 0 243 (by decide +kernel)
theorem dX9_askAtHouse_73 : decode cX9_askAtHouse 73 = .ok (.aload_n 0, 1) := dc_42 (by decide +kernel)
theorem dX9_askAtHouse_74 : decode cX9_askAtHouse 74 = .ok (.bipush 9, 2) := dc_16 9 9 (by decide +kernel)
theorem dX9_askAtHouse_76 : decode cX9_askAtHouse 76 = .ok (.aload_n 3, 1) := dc_45 (by decide +kernel)
theorem dX9_askAtHouse_77 : decode cX9_askAtHouse 77 = .ok (.invokevirtual 236, 3) := dc_182 0 236 (by decide +kernel)
theorem dX9_askAtHouse_80 : decode cX9_askAtHouse 80 = .ok (.istore 4, 2) := dc_54 4 (by decide +kernel)
theorem dX9_askAtHouse_82 : decode cX9_askAtHouse 82 = .ok (.iload 4, 2) := dc_21 4 (by decide +kernel)
theorem dX9_askAtHouse_84 : decode cX9_askAtHouse 84 = .ok (.bipush (-5), 2) := dc_16 251 (-5) (by decide +kernel)
theorem dX9_askAtHouse_86 : decode cX9_askAtHouse 86 = .ok (.if_icmp .eq 49, 3) := dc_159 0 49 49 (by decide +kernel)
theorem dX9_askAtHouse_135 : decode cX9_askAtHouse 135 = .ok (.aload_n 0, 1) := dc_42 (by decide +kernel)
theorem dX9_askAtHouse_136 : decode cX9_askAtHouse 136 = .ok (.getfield 57, 3) := dc_180 0 57 (by decide +kernel)
theorem dX9_askAtHouse_139 : decode cX9_askAtHouse 139 = .ok (.aload_n 0, 1) := dc_42 (by decide +kernel)
theorem dX9_askAtHouse_140 : decode cX9_askAtHouse 140 = .ok (.getfield 110, 3) := dc_180 0 110 (by decide +kernel)
theorem dX9_askAtHouse_143 : decode cX9_askAtHouse 143 = .ok (.iconst 2, 1) := dc_5 (by decide +kernel)
theorem dX9_askAtHouse_144 : decode cX9_askAtHouse 144 = .ok (.iconst 1, 1) := dc_4 (by decide +kernel)
theorem dX9_askAtHouse_145 : decode cX9_askAtHouse 145 = .ok (.invokevirtual 243, 3) := dc_182 0 243 (by decide +kernel)
theorem dX9_askAtHouse_89 : decode cX9_askAtHouse 89 = .ok (.aload_n 0, 1) := dc_42 (by decide +kernel)
theorem dX9_askAtHouse_90 : decode cX9_askAtHouse 90 = .ok (.iload 4, 2) := dc_21 4 (by decide +kernel)
theorem dX9_askAtHouse_92 : decode cX9_askAtHouse 92 = .ok (.invokevirtual 256, 3) := dc_182 1 0 (by decide +kernel)
theorem kw_4_215 : (Jvm.Cond.methodLink "ParishUnion$Union" (256 : Nat) ({ cls := "ParishUnion$Union", name := "bedsTaken", desc := "(I)I" } : Jvm.MethodName)) ∈ gT := gT_of (tb_4 _ (List.mem_of_getElem? (i := 215) rfl)) rfl
theorem kw_4_218 : (Jvm.Cond.code ({ cls := "ParishUnion$Union", name := "bedsTaken", desc := "(I)I" } : Jvm.MethodName) prog_11_method_9_code (4 : Nat) (Option.some Jvm.ClassFile.FieldType.int)) ∈ gT := gT_of (tb_4 _ (List.mem_of_getElem? (i := 218) rfl)) rfl
theorem okX9_bedsTaken : gQok yX9_bedsTaken cX9_bedsTaken 4 (Option.some Jvm.ClassFile.FieldType.int) 1 := ⟨kw_4_218, kw_1_2, by decide +kernel, by decide +kernel, by decide +kernel⟩
theorem kw_4_216 : (Jvm.Cond.instanceMethod ({ cls := "ParishUnion$Union", name := "bedsTaken", desc := "(I)I" } : Jvm.MethodName)) ∈ gT := gT_of (tb_4 _ (List.mem_of_getElem? (i := 216) rfl)) rfl
theorem kw_4_217 : (Jvm.Cond.selects "ParishUnion$Union" ({ cls := "ParishUnion$Union", name := "bedsTaken", desc := "(I)I" } : Jvm.MethodName) ({ cls := "ParishUnion$Union", name := "bedsTaken", desc := "(I)I" } : Jvm.MethodName)) ∈ gT := gT_of (tb_4 _ (List.mem_of_getElem? (i := 217) rfl)) rfl
theorem dX9_askAtHouse_95 : decode cX9_askAtHouse 95 = .ok (.aload_n 0, 1) := dc_42 (by decide +kernel)
theorem dX9_askAtHouse_96 : decode cX9_askAtHouse 96 = .ok (.getfield 50, 3) := dc_180 0 50 (by decide +kernel)
theorem dX9_askAtHouse_99 : decode cX9_askAtHouse 99 = .ok (.getfield 260, 3) := dc_180 1 4 (by decide +kernel)
theorem kw_1_96 : (Jvm.Cond.fieldLink "ParishUnion$Union" (260 : Nat) "ParishUnion$House" "beds" "[I") ∈ gT := gT_of (tb_1 _ (List.mem_of_getElem? (i := 96) rfl)) rfl
theorem dX9_askAtHouse_102 : decode cX9_askAtHouse 102 = .ok (.iload 4, 2) := dc_21 4 (by decide +kernel)
theorem dX9_askAtHouse_104 : decode cX9_askAtHouse 104 = .ok (.iaload, 1) := dc_46 (by decide +kernel)
theorem dX9_askAtHouse_105 : decode cX9_askAtHouse 105 = .ok (.if_icmp .ge 30, 3) := dc_162 0 30 30 (by decide +kernel)
theorem dX9_askAtHouse_108 : decode cX9_askAtHouse 108 = .ok (.aload_n 3, 1) := dc_45 (by decide +kernel)
theorem dX9_askAtHouse_109 : decode cX9_askAtHouse 109 = .ok (.getfield 168, 3) := dc_180 0 168 (by decide +kernel)
theorem dX9_askAtHouse_112 : decode cX9_askAtHouse 112 = .ok (.istore 5, 2) := dc_54 5 (by decide +kernel)
theorem dX9_askAtHouse_114 : decode cX9_askAtHouse 114 = .ok (.aload_n 3, 1) := dc_45 (by decide +kernel)
theorem dX9_askAtHouse_115 : decode cX9_askAtHouse 115 = .ok (.bipush 6, 2) := dc_16 6 6 (by decide +kernel)
theorem dX9_askAtHouse_117 : decode cX9_askAtHouse 117 = .ok (.invokevirtual 263, 3) := dc_182 1 7 (by decide +kernel)
theorem kw_4_219 : (Jvm.Cond.methodLink "ParishUnion$Union" (263 : Nat) ({ cls := "ParishUnion$Person", name := "goTo", desc := "(I)V" } : Jvm.MethodName)) ∈ gT := gT_of (tb_4 _ (List.mem_of_getElem? (i := 219) rfl)) rfl
theorem dX9_askAtHouse_120 : decode cX9_askAtHouse 120 = .ok (.aload_n 3, 1) := dc_45 (by decide +kernel)
theorem dX9_askAtHouse_121 : decode cX9_askAtHouse 121 = .ok (.iload 4, 2) := dc_21 4 (by decide +kernel)
theorem dX9_askAtHouse_123 : decode cX9_askAtHouse 123 = .ok (.putfield 174, 3) := dc_181 0 174 (by decide +kernel)
theorem dX9_askAtHouse_126 : decode cX9_askAtHouse 126 = .ok (.aload_n 3, 1) := dc_45 (by decide +kernel)
theorem dX9_askAtHouse_127 : decode cX9_askAtHouse 127 = .ok (.iload 5, 2) := dc_21 5 (by decide +kernel)
theorem dX9_askAtHouse_129 : decode cX9_askAtHouse 129 = .ok (.putfield 266, 3) := dc_181 1 10 (by decide +kernel)
theorem kw_1_211 : (Jvm.Cond.fieldLink "ParishUnion$Union" (266 : Nat) "ParishUnion$Person" "askedFrom" "I") ∈ gT := gT_of (tb_1 _ (List.mem_of_getElem? (i := 211) rfl)) rfl
theorem dX9_askAtHouse_132 : decode cX9_askAtHouse 132 = .ok (.goto 16, 3) := dc_167 0 16 16 (by decide +kernel)
abbrev R_X9_askAtHouse : Room := { frames := 5, cells := 0, slots := 0, locals := 144 }
set_option maxRecDepth 100000 in
set_option maxHeartbeats 4000000 in
theorem s_X9_askAtHouse {l : Launch} {n0 : Nat} {D : va_G} {cA : Nat → ClassId} {M : gM}  {sz : Nat} (hsz : 206 ≤ sz) (I : gI sz M) (C : gC sz M) (q_1_15 : 0 ≤ M 1 15 ∧ M 1 15 ≤ 299)  : Met l yX9_askAtHouse (gWsOf yX9_askAtHouse cX9_askAtHouse 6 (Option.none : Option Jvm.ClassFile.FieldType)) R_X9_askAtHouse (gPc n0 D cA [gA n0 1] M sz) (gQv n0 D cA sz (fun M1 => gI sz M1 ∧ gC sz M1 ∧ gFr 65616 M M1)) 0 0 (fun q => n0 ≤ q) := by
  refine gMetV [gA n0 1] (by decide) (Nat.le_of_ble_eq_true rfl) ⟨rfl, rfl⟩ ?_
  intro p e s m args below meth cd Q X hq
  have X : gCx p s m args meth cd n0 D cA "ParishUnion$Union" cX9_askAtHouse 6 := X
  show G p l e R_X9_askAtHouse s m args below meth cd n0 D cA 6 Q 0 0 M sz 0 [(0, gA n0 1)] []
  obtain ⟨v1, hv1, rv1⟩ := gRd I (by decide) (gsz hsz (by decide)) rc_1_15.1
  refine g_aload_n (n := 1) X 0 dX9_askAtHouse_0 rfl rfl rfl ?_
  refine g_iconst (n := 2) X dX9_askAtHouse_1 rfl ?_
  refine g_aload_n (n := 3) X 0 dX9_askAtHouse_2 rfl rfl rfl ?_
  refine gg_9_15 (n := 6) (z := v1) X (by decide) (gsz hsz (by decide)) lay_1 kw_2_138 dX9_askAtHouse_3 rfl hv1 ?_
  refine g_callVi (n := 9) (As := [gJ 3, gJ v1]) (rest := []) (cs1 := 0) (ss1 := 0) X (s_X9_law 3 (by omega) v1 (by omega) hsz I C ) okX9_law kw_4_213 ⟨kw_3_138, kw_3_139⟩ ⟨rfl, rfl⟩ ⟨Nat.le_of_ble_eq_true rfl, Nat.le_of_ble_eq_true rfl⟩ rfl (by decide) (gsz hsz (by decide)) lay_1 rfl rfl (Nat.le_of_ble_eq_true rfl) ⟨Nat.le_of_ble_eq_true rfl, Nat.le_of_ble_eq_true rfl⟩ rfl rfl dX9_askAtHouse_6 rfl (fun v2 M3 P4 => ?_)
  obtain ⟨rfl, rv2⟩ := P4
  refine g_istore_n (n := 10) (L' := [(1, gJ v2), (0, gA n0 1)]) X dX9_askAtHouse_9 rfl (by decide) rfl rfl ?_
  refine g_iconst (n := 11) X dX9_askAtHouse_10 rfl ?_
  refine g_istore_n (n := 12) (L' := [(2, gJ 0), (1, gJ v2), (0, gA n0 1)]) X dX9_askAtHouse_11 rfl (by decide) rfl rfl ?_
  have j7 : ∀ (N645 : Nat) (v5 : Int) (M6 : gM) , (0 ≤ v5 ∧ v5 ≤ 16) → gI sz M6 → gC sz M6 → gFr 65616 M M6 → (16 - v5).toNat < N645 → G p l e R_X9_askAtHouse s m args below meth cd n0 D cA 6 Q 0 0 M6 sz 12 [(0, gA n0 1), (1, gJ v2), (2, gJ v5)] [] := by
    intro N645; induction N645 with
    | zero => intro v5 M6 rv5 IM6 CM6 FM6 hm647; exfalso; omega
    | succ N645 ih646 =>
      intro v5 M6 rv5 IM6 CM6 FM6 hm647
      refine g_iload_n (n := 13) X 2 dX9_askAtHouse_12 rfl rfl rfl ?_
      refine g_aload_n (n := 14) X 0 dX9_askAtHouse_13 rfl rfl rfl ?_
      obtain ⟨v648, hv648, rv648⟩ := gRd IM6 (by decide) (gsz hsz (by decide)) rc_1_10.1
      refine gg_9_10 (n := 17) (z := v648) X (by decide) (gsz hsz (by decide)) lay_1 kw_2_126 dX9_askAtHouse_14 rfl hv648 ?_
      refine g_icmp_ge (n := 20) (tgt := 154) X dX9_askAtHouse_17 (by decide) (by omega) (by omega) rfl (fun c649 => ?_) (fun c649 => ?_)
      · exact hq _ _ _ dX9_askAtHouse_154 ⟨IM6, CM6, (gFr.c gFr.rf FM6 rfl)⟩
      · refine g_aload_n (n := 21) X 0 dX9_askAtHouse_20 rfl rfl rfl ?_
        refine gg_9_1 (n := 24) (z := 5) X (by decide) (gsz hsz (by decide)) lay_1 kw_2_106 dX9_askAtHouse_21 rfl (rf_1_1 IM6 (gsz hsz (by decide))) (by decide) ?_
        refine g_iload_n (n := 25) X 2 dX9_askAtHouse_24 rfl rfl rfl ?_
        obtain ⟨o650, ho650, ro650⟩ : ∃ o : Int, o = 31 + v5 ∧ (31 ≤ o ∧ o < 47) := ⟨_, rfl, by omega⟩
        refine g_aald6 (n := 26) (t := o650) X (by decide) (gsz hsz (by decide)) lay_5 (by omega) (by omega) (by decide) (gA5 IM6 hsz (by omega) (by omega) (by omega)) (by omega) dX9_askAtHouse_25 rfl ?_
        refine g_astore_n (n := 27) (L' := [(3, gA n0 o650), (0, gA n0 1), (1, gJ v2), (2, gJ v5)]) X dX9_askAtHouse_26 rfl (by decide) rfl rfl ?_
        refine g_aload_n (n := 28) X 0 dX9_askAtHouse_27 rfl rfl rfl ?_
        refine g_callVi (n := 31) (As := []) (rest := []) (cs1 := 0) (ss1 := 0) X (s_X6_isAtParish o650 ro650 hsz IM6 CM6 ) okX6_isAtParish kw_4_202 ⟨kw_4_122, kw_4_123⟩ ⟨rfl, rfl⟩ ⟨Nat.le_of_ble_eq_true rfl, Nat.le_of_ble_eq_true rfl⟩ rfl (Po0 ro650) (Posz hsz ro650) (lay2_P ro650) rfl rfl (Nat.le_of_ble_eq_true rfl) ⟨Nat.le_of_ble_eq_true rfl, Nat.le_of_ble_eq_true rfl⟩ rfl rfl dX9_askAtHouse_28 rfl (fun v651 M652 P653 => ?_)
        obtain ⟨rfl, rv651, xv651⟩ := P653
        obtain ⟨v654, hv654, rv654⟩ := gRd IM6 (Po0 ro650) (Posz hsz ro650) (rP_5 ro650).1
        refine g_if_eq (n := 34) (tgt := 148) X dX9_askAtHouse_31 (by decide) (by omega) rfl (fun c655 => ?_) (fun c655 => ?_)
        · refine g_iinc (n := 151) (w := v5 + 1) (L' := [(2, gJ (v5 + 1)), (3, gA n0 o650), (0, gA n0 1), (1, gJ v2)]) X 3 dX9_askAtHouse_148 rfl rfl (by decide) rfl rfl ?_
          refine g_goto (tgt := 12) X dX9_askAtHouse_151 (by decide) ?_
          refine G.sub (L' := [(0, gA n0 1), (1, gJ v2), (2, gJ (v5 + 1))]) [2, 3, 0] rfl ?_
          exact ih646 (v5 + 1) M6 (by omega) IM6 CM6 (gFr.c gFr.rf FM6 rfl) (by omega)
        · refine g_aload_n (n := 35) X 0 dX9_askAtHouse_34 rfl rfl rfl ?_
          obtain ⟨v656, hv656, rv656⟩ := gRd IM6 (Po0 ro650) (Posz hsz ro650) (rP_6 ro650).1
          refine gg_6_6 (n := 38) (z := v656) X (Po0 ro650) (Posz hsz ro650) (lay2_P ro650) kw_1_199 dX9_askAtHouse_35 rfl hv656 ?_
          refine g_iload_n (n := 39) X 2 dX9_askAtHouse_38 rfl rfl rfl ?_
          refine g_aload_n (n := 40) X 1 dX9_askAtHouse_39 rfl rfl rfl ?_
          refine g_aload_n (n := 41) X 0 dX9_askAtHouse_40 rfl rfl rfl ?_
          refine gg_6_5 (n := 44) (z := v654) X (Po0 ro650) (Posz hsz ro650) (lay2_P ro650) kw_1_195 dX9_askAtHouse_41 rfl hv654 ?_
          refine g_aload_n (n := 45) X 1 dX9_askAtHouse_44 rfl rfl rfl ?_
          refine gg_9_15 (n := 48) (z := v1) X (by decide) (gsz hsz (by decide)) lay_1 kw_2_138 dX9_askAtHouse_45 rfl ((gFr.at FM6 rc_1_15.2.2 rfl).trans hv1) ?_
          refine g_callVi (n := 51) (As := [gJ v654, gJ v1]) (rest := [gJ v2, gJ v656]) (cs1 := 0) (ss1 := 0) X (s_X9_newsIn v654 (by omega) v1 (by omega) hsz IM6 CM6 ) okX9_newsIn kw_4_214 ⟨kw_4_172, kw_4_173⟩ ⟨rfl, rfl⟩ ⟨Nat.le_of_ble_eq_true rfl, Nat.le_of_ble_eq_true rfl⟩ rfl (by decide) (gsz hsz (by decide)) lay_1 rfl rfl (Nat.le_of_ble_eq_true rfl) ⟨Nat.le_of_ble_eq_true rfl, Nat.le_of_ble_eq_true rfl⟩ rfl rfl dX9_askAtHouse_48 rfl (fun v657 M658 P659 => ?_)
          obtain ⟨rfl, rv657⟩ := P659
          refine g_iaddA (n := 52) X dX9_askAtHouse_51 rfl (fun v660 rv660 xv660 => ?_)
          clear xv660
          refine g_icmp_le (n := 55) (tgt := 148) X dX9_askAtHouse_52 (by decide) (by omega) (by omega) rfl (fun c661 => ?_) (fun c661 => ?_)
          · refine g_iinc (n := 151) (w := v5 + 1) (L' := [(2, gJ (v5 + 1)), (3, gA n0 o650), (0, gA n0 1), (1, gJ v2)]) X 3 dX9_askAtHouse_148 rfl rfl (by decide) rfl rfl ?_
            refine g_goto (tgt := 12) X dX9_askAtHouse_151 (by decide) ?_
            refine G.sub (L' := [(0, gA n0 1), (1, gJ v2), (2, gJ (v5 + 1))]) [2, 3, 0] rfl ?_
            exact ih646 (v5 + 1) M6 (by omega) IM6 CM6 (gFr.c gFr.rf FM6 rfl) (by omega)
          · refine g_aload_n (n := 56) X 0 dX9_askAtHouse_55 rfl rfl rfl ?_
            refine g_iconst (n := 57) X dX9_askAtHouse_56 rfl ?_
            refine gp_6_14 (n := 60) X (Po0 ro650) (Posz hsz ro650) (lay2_P ro650) kw_1_222 (by omega) dX9_askAtHouse_57 rfl ?_
            refine G.nm (fun M662 e663 => ?_)
            have IM662 : gI sz M662 := gI.set IM6 (rP_14 ro650).1 (by omega) e663
            have CM662 : gC sz M662 := gC.set CM6 (rP_14 ro650).2.1 e663
            refine g_aload_n (n := 61) X 1 dX9_askAtHouse_60 rfl rfl rfl ?_
            refine gg_9_7 (n := 64) (z := 23) X (by decide) (gsz hsz (by decide)) lay_1 kw_2_120 dX9_askAtHouse_61 rfl (rf_1_7 IM662 (gsz hsz (by decide))) (by decide) ?_
            refine g_aload_n (n := 65) X 1 dX9_askAtHouse_64 rfl rfl rfl ?_
            refine gg_9_15 (n := 68) (z := v1) X (by decide) (gsz hsz (by decide)) lay_1 kw_2_138 dX9_askAtHouse_65 rfl ((congrFun (congrFun e663 _) _).trans ((gset_ne (by omega)).trans ((gFr.at FM6 rc_1_15.2.2 rfl).trans hv1))) ?_
            refine g_iconst (n := 69) X dX9_askAtHouse_68 rfl ?_
            refine g_iconst (n := 70) X dX9_askAtHouse_69 rfl ?_
            refine g_callVv (n := 73) (As := [gJ v1, gJ 5, gJ 1]) (rest := []) (cs1 := 0) (ss1 := 0) X (s_X5_add v1 (by omega) 5 (by omega) 1 (by omega) hsz IM662 CM662 ) okX5_add kw_4_205 ⟨kw_4_206, kw_4_207⟩ ⟨rfl, rfl⟩ ⟨Nat.le_of_ble_eq_true rfl, Nat.le_of_ble_eq_true rfl⟩ rfl (by decide) (gsz hsz (by decide)) lay_23 rfl rfl (Nat.le_of_ble_eq_true rfl) ⟨Nat.le_of_ble_eq_true rfl, Nat.le_of_ble_eq_true rfl⟩ rfl rfl dX9_askAtHouse_70 rfl (fun M665 P666 => ?_)
            obtain ⟨IM665, CM665, FM665⟩ := P666
            refine g_aload_n (n := 74) X 1 dX9_askAtHouse_73 rfl rfl rfl ?_
            refine g_bipush (n := 76) X dX9_askAtHouse_74 (by decide +kernel) rfl ?_
            refine g_aload_n (n := 77) X 0 dX9_askAtHouse_76 rfl rfl rfl ?_
            refine g_callVi (n := 80) (As := [gJ 9, gA n0 o650]) (rest := []) (cs1 := 0) (ss1 := 0) X (s_X9_firstClause 9 (by omega) o650 ro650 hsz IM665 CM665 ) okX9_firstClause kw_4_204 ⟨kw_4_102, kw_4_103⟩ ⟨rfl, rfl⟩ ⟨Nat.le_of_ble_eq_true rfl, Nat.le_of_ble_eq_true rfl⟩ rfl (by decide) (gsz hsz (by decide)) lay_1 rfl rfl (Nat.le_of_ble_eq_true rfl) ⟨Nat.le_of_ble_eq_true rfl, Nat.le_of_ble_eq_true rfl⟩ rfl rfl dX9_askAtHouse_77 rfl (fun v667 M668 P669 => ?_)
            obtain ⟨rfl, rv667, xv667⟩ := P669
            refine g_istore (n := 82) (L' := [(4, gJ v667), (3, gA n0 o650), (0, gA n0 1), (1, gJ v2), (2, gJ v5)]) X dX9_askAtHouse_80 (by decide) rfl rfl ?_
            refine g_iload (n := 84) X 0 dX9_askAtHouse_82 rfl rfl ?_
            refine g_bipush (n := 86) X dX9_askAtHouse_84 (by decide +kernel) rfl ?_
            refine g_icmp_eq (n := 89) (tgt := 135) X dX9_askAtHouse_86 (by decide) (by omega) (by omega) rfl (fun c670 => ?_) (fun c670 => ?_)
            · refine g_aload_n (n := 136) X 2 dX9_askAtHouse_135 rfl rfl rfl ?_
              refine gg_9_7 (n := 139) (z := 23) X (by decide) (gsz hsz (by decide)) lay_1 kw_2_120 dX9_askAtHouse_136 rfl (rf_1_7 IM665 (gsz hsz (by decide))) (by decide) ?_
              refine g_aload_n (n := 140) X 2 dX9_askAtHouse_139 rfl rfl rfl ?_
              refine gg_9_15 (n := 143) (z := v1) X (by decide) (gsz hsz (by decide)) lay_1 kw_2_138 dX9_askAtHouse_140 rfl ((gFr.at FM665 rc_1_15.2.2 rfl).trans ((congrFun (congrFun e663 _) _).trans ((gset_ne (by omega)).trans ((gFr.at FM6 rc_1_15.2.2 rfl).trans hv1)))) ?_
              refine g_iconst (n := 144) X dX9_askAtHouse_143 rfl ?_
              refine g_iconst (n := 145) X dX9_askAtHouse_144 rfl ?_
              refine g_callVv (n := 148) (As := [gJ v1, gJ 2, gJ 1]) (rest := []) (cs1 := 0) (ss1 := 0) X (s_X5_add v1 (by omega) 2 (by omega) 1 (by omega) hsz IM665 CM665 ) okX5_add kw_4_205 ⟨kw_4_206, kw_4_207⟩ ⟨rfl, rfl⟩ ⟨Nat.le_of_ble_eq_true rfl, Nat.le_of_ble_eq_true rfl⟩ rfl (by decide) (gsz hsz (by decide)) lay_23 rfl rfl (Nat.le_of_ble_eq_true rfl) ⟨Nat.le_of_ble_eq_true rfl, Nat.le_of_ble_eq_true rfl⟩ rfl rfl dX9_askAtHouse_145 rfl (fun M672 P673 => ?_)
              obtain ⟨IM672, CM672, FM672⟩ := P673
              refine g_iinc (n := 151) (w := v5 + 1) (L' := [(2, gJ (v5 + 1)), (4, gJ v667), (3, gA n0 o650), (0, gA n0 1), (1, gJ v2)]) X 4 dX9_askAtHouse_148 rfl rfl (by decide) rfl rfl ?_
              refine g_goto (tgt := 12) X dX9_askAtHouse_151 (by decide) ?_
              refine G.sub (L' := [(0, gA n0 1), (1, gJ v2), (2, gJ (v5 + 1))]) [3, 4, 0] rfl ?_
              exact ih646 (v5 + 1) M672 (by omega) IM672 CM672 (gFr.c (gFr.c (gFr.s (gFr.c gFr.rf FM6 rfl) e663 (rP_14 ro650).2.2 rfl) FM665 rfl) FM672 rfl) (by omega)
            · refine g_aload_n (n := 90) X 2 dX9_askAtHouse_89 rfl rfl rfl ?_
              refine g_iload (n := 92) X 0 dX9_askAtHouse_90 rfl rfl ?_
              refine g_callVi (n := 95) (As := [gJ v667]) (rest := []) (cs1 := 0) (ss1 := 0) X (s_X9_bedsTaken v667 (by omega) hsz IM665 CM665 ) okX9_bedsTaken kw_4_215 ⟨kw_4_216, kw_4_217⟩ ⟨rfl, rfl⟩ ⟨Nat.le_of_ble_eq_true rfl, Nat.le_of_ble_eq_true rfl⟩ rfl (by decide) (gsz hsz (by decide)) lay_1 rfl rfl (Nat.le_of_ble_eq_true rfl) ⟨Nat.le_of_ble_eq_true rfl, Nat.le_of_ble_eq_true rfl⟩ rfl rfl dX9_askAtHouse_92 rfl (fun v674 M675 P676 => ?_)
              obtain ⟨rfl, rv674⟩ := P676
              refine g_aload_n (n := 96) X 2 dX9_askAtHouse_95 rfl rfl rfl ?_
              refine gg_9_6 (n := 99) (z := 15) X (by decide) (gsz hsz (by decide)) lay_1 kw_2_118 dX9_askAtHouse_96 rfl (rf_1_6 IM665 (gsz hsz (by decide))) (by decide) ?_
              refine gg_2_0 (n := 102) (z := 16) X (by decide) (gsz hsz (by decide)) lay_15 kw_1_96 dX9_askAtHouse_99 rfl (rf_15_0 IM665 (gsz hsz (by decide))) (by decide) ?_
              refine g_iload (n := 104) X 0 dX9_askAtHouse_102 rfl rfl ?_
              obtain ⟨v677, hv677, rv677⟩ := gRd IM665 (by decide) (gsz hsz (by decide)) (ra_16 v667).1
              refine g_iald2 (n := 105) (v := v677) X (by decide) (gsz hsz (by decide)) lay_16 (by omega) (by omega) (by decide) dX9_askAtHouse_104 rfl hv677 ?_
              refine g_icmp_ge (n := 108) (tgt := 135) X dX9_askAtHouse_105 (by decide) (by omega) (by omega) rfl (fun c678 => ?_) (fun c678 => ?_)
              · refine g_aload_n (n := 136) X 2 dX9_askAtHouse_135 rfl rfl rfl ?_
                refine gg_9_7 (n := 139) (z := 23) X (by decide) (gsz hsz (by decide)) lay_1 kw_2_120 dX9_askAtHouse_136 rfl (rf_1_7 IM665 (gsz hsz (by decide))) (by decide) ?_
                refine g_aload_n (n := 140) X 2 dX9_askAtHouse_139 rfl rfl rfl ?_
                refine gg_9_15 (n := 143) (z := v1) X (by decide) (gsz hsz (by decide)) lay_1 kw_2_138 dX9_askAtHouse_140 rfl ((gFr.at FM665 rc_1_15.2.2 rfl).trans ((congrFun (congrFun e663 _) _).trans ((gset_ne (by omega)).trans ((gFr.at FM6 rc_1_15.2.2 rfl).trans hv1)))) ?_
                refine g_iconst (n := 144) X dX9_askAtHouse_143 rfl ?_
                refine g_iconst (n := 145) X dX9_askAtHouse_144 rfl ?_
                refine g_callVv (n := 148) (As := [gJ v1, gJ 2, gJ 1]) (rest := []) (cs1 := 0) (ss1 := 0) X (s_X5_add v1 (by omega) 2 (by omega) 1 (by omega) hsz IM665 CM665 ) okX5_add kw_4_205 ⟨kw_4_206, kw_4_207⟩ ⟨rfl, rfl⟩ ⟨Nat.le_of_ble_eq_true rfl, Nat.le_of_ble_eq_true rfl⟩ rfl (by decide) (gsz hsz (by decide)) lay_23 rfl rfl (Nat.le_of_ble_eq_true rfl) ⟨Nat.le_of_ble_eq_true rfl, Nat.le_of_ble_eq_true rfl⟩ rfl rfl dX9_askAtHouse_145 rfl (fun M680 P681 => ?_)
                obtain ⟨IM680, CM680, FM680⟩ := P681
                refine g_iinc (n := 151) (w := v5 + 1) (L' := [(2, gJ (v5 + 1)), (4, gJ v667), (3, gA n0 o650), (0, gA n0 1), (1, gJ v2)]) X 4 dX9_askAtHouse_148 rfl rfl (by decide) rfl rfl ?_
                refine g_goto (tgt := 12) X dX9_askAtHouse_151 (by decide) ?_
                refine G.sub (L' := [(0, gA n0 1), (1, gJ v2), (2, gJ (v5 + 1))]) [3, 4, 0] rfl ?_
                exact ih646 (v5 + 1) M680 (by omega) IM680 CM680 (gFr.c (gFr.c (gFr.s (gFr.c gFr.rf FM6 rfl) e663 (rP_14 ro650).2.2 rfl) FM665 rfl) FM680 rfl) (by omega)
              · refine g_aload_n (n := 109) X 1 dX9_askAtHouse_108 rfl rfl rfl ?_
                refine gg_6_5 (n := 112) (z := v654) X (Po0 ro650) (Posz hsz ro650) (lay2_P ro650) kw_1_195 dX9_askAtHouse_109 rfl ((gFr.at FM665 (rP_5 ro650).2.2 rfl).trans ((congrFun (congrFun e663 _) _).trans ((gset_ne (by omega)).trans hv654))) ?_
                refine g_istore (n := 114) (L' := [(5, gJ v654), (4, gJ v667), (3, gA n0 o650), (0, gA n0 1), (1, gJ v2), (2, gJ v5)]) X dX9_askAtHouse_112 (by decide) rfl rfl ?_
                refine g_aload_n (n := 115) X 2 dX9_askAtHouse_114 rfl rfl rfl ?_
                refine g_bipush (n := 117) X dX9_askAtHouse_115 (by decide +kernel) rfl ?_
                refine g_callVv (n := 120) (As := [gJ 6]) (rest := []) (cs1 := 0) (ss1 := 0) X (s_X6_goTo o650 ro650 6 (by omega) hsz IM665 CM665 ) okX6_goTo kw_4_219 ⟨kw_3_65, kw_3_66⟩ ⟨rfl, rfl⟩ ⟨Nat.le_of_ble_eq_true rfl, Nat.le_of_ble_eq_true rfl⟩ rfl (Po0 ro650) (Posz hsz ro650) (lay2_P ro650) rfl rfl (Nat.le_of_ble_eq_true rfl) ⟨Nat.le_of_ble_eq_true rfl, Nat.le_of_ble_eq_true rfl⟩ rfl rfl dX9_askAtHouse_117 rfl (fun M683 P684 => ?_)
                obtain ⟨M685, e686, M687, e688, M689, e690, M691, e692, rfl⟩ := P684
                have IM685 : gI sz M685 := gI.set IM665 (rP_5 ro650).1 (by omega) e686
                have IM687 : gI sz M687 := gI.set IM685 (rP_8 ro650).1 (by omega) e688
                have IM689 : gI sz M689 := gI.set IM687 (rP_9 ro650).1 (by omega) e690
                have IM691 : gI sz M691 := gI.set IM689 (rP_10 ro650).1 (by omega) e692
                refine g_aload_n (n := 121) X 2 dX9_askAtHouse_120 rfl rfl rfl ?_
                refine g_iload (n := 123) X 1 dX9_askAtHouse_121 rfl rfl ?_
                refine gp_6_8 (n := 126) X (Po0 ro650) (Posz hsz ro650) (lay2_P ro650) kw_1_205 dX9_askAtHouse_123 rfl ?_
                refine G.nm (fun M693 e694 => ?_)
                have IM693 : gI sz M693 := gI.set IM691 (rP_8 ro650).1 (by omega) e694
                refine g_aload_n (n := 127) X 2 dX9_askAtHouse_126 rfl rfl rfl ?_
                refine g_iload (n := 129) X 0 dX9_askAtHouse_127 rfl rfl ?_
                refine gp_6_10 (n := 132) X (Po0 ro650) (Posz hsz ro650) (lay2_P ro650) kw_1_211 dX9_askAtHouse_129 rfl ?_
                refine G.nm (fun M695 e696 => ?_)
                have IM695 : gI sz M695 := gI.set IM693 (rP_10 ro650).1 (by omega) e696
                refine g_goto (tgt := 148) X dX9_askAtHouse_132 (by decide) ?_
                refine g_iinc (n := 151) (w := v5 + 1) (L' := [(2, gJ (v5 + 1)), (5, gJ v654), (4, gJ v667), (3, gA n0 o650), (0, gA n0 1), (1, gJ v2)]) X 5 dX9_askAtHouse_148 rfl rfl (by decide) rfl rfl ?_
                refine g_goto (tgt := 12) X dX9_askAtHouse_151 (by decide) ?_
                refine G.sub (L' := [(0, gA n0 1), (1, gJ v2), (2, gJ (v5 + 1))]) [4, 5, 0] rfl ?_
                have CM695 : gC sz M695 := gC.pers CM665 ro650 (fun a b h => ((congrFun (congrFun e696 a) b).trans ((gset_ne (fun q => h q.1)).trans ((congrFun (congrFun e694 a) b).trans ((gset_ne (fun q => h q.1)).trans ((congrFun (congrFun e692 a) b).trans ((gset_ne (fun q => h q.1)).trans ((congrFun (congrFun e690 a) b).trans ((gset_ne (fun q => h q.1)).trans ((congrFun (congrFun e688 a) b).trans ((gset_ne (fun q => h q.1)).trans ((congrFun (congrFun e686 a) b).trans ((gset_ne (fun q => h q.1)).trans rfl))))))))))))) (by have q5 : M695 o650 5 = 6 := ((congrFun (congrFun e696 _) _).trans ((gset_ne (by omega)).trans ((congrFun (congrFun e694 _) _).trans ((gset_ne (by omega)).trans ((congrFun (congrFun e692 _) _).trans ((gset_ne (by omega)).trans ((congrFun (congrFun e690 _) _).trans ((gset_ne (by omega)).trans ((congrFun (congrFun e688 _) _).trans ((gset_ne (by omega)).trans ((congrFun (congrFun e686 _) _).trans (gset_eq _ _ _ _)))))))))))); have q8 : M695 o650 8 = v667 := ((congrFun (congrFun e696 _) _).trans ((gset_ne (by omega)).trans ((congrFun (congrFun e694 _) _).trans (gset_eq _ _ _ _)))); have q10 : M695 o650 10 = v654 := ((congrFun (congrFun e696 _) _).trans (gset_eq _ _ _ _)); omega)
                exact ih646 (v5 + 1) M695 (by omega) IM695 CM695 (gFr.s (gFr.s (gFr.s (gFr.s (gFr.s (gFr.s (gFr.c (gFr.s (gFr.c gFr.rf FM6 rfl) e663 (rP_14 ro650).2.2 rfl) FM665 rfl) e686 (rP_5 ro650).2.2 rfl) e688 (rP_8 ro650).2.2 rfl) e690 (rP_9 ro650).2.2 rfl) e692 (rP_10 ro650).2.2 rfl) e694 (rP_8 ro650).2.2 rfl) e696 (rP_10 ro650).2.2 rfl) (by omega)
  refine G.sub (L' := [(0, gA n0 1), (1, gJ v2), (2, gJ 0)]) [2, 1, 0] rfl ?_
  exact j7 _ 0 M (by omega) I C gFr.rf (Nat.lt_succ_self _)
theorem dX9_eat_0 : decode cX9_eat 0 = .ok (.aload_n 0, 1) := dc_42 (by decide +kernel)
theorem dX9_eat_1 : decode cX9_eat 1 = .ok (.iconst 2, 1) := dc_5 (by decide +kernel)
theorem dX9_eat_2 : decode cX9_eat 2 = .ok (.aload_n 0, 1) := dc_42 (by decide +kernel)
theorem dX9_eat_3 : decode cX9_eat 3 = .ok (.getfield 110, 3) := dc_180 0 110 (by decide +kernel)
theorem dX9_eat_6 : decode cX9_eat 6 = .ok (.invokevirtual 247, 3) := dc_182 0 247 (by decide +kernel)
theorem dX9_eat_9 : decode cX9_eat 9 = .ok (.istore_n 1, 1) := dc_60 (by decide +kernel)
theorem dX9_eat_10 : decode cX9_eat 10 = .ok (.iconst 0, 1) := dc_3 (by decide +kernel)
theorem dX9_eat_11 : decode cX9_eat 11 = .ok (.istore_n 2, 1) := dc_61 (by decide +kernel)
theorem dX9_eat_12 : decode cX9_eat 12 = .ok (.iload_n 2, 1) := dc_28 (by decide +kernel)
theorem dX9_eat_13 : decode cX9_eat 13 = .ok (.aload_n 0, 1) := dc_42 (by decide +kernel)
theorem dX9_eat_14 : decode cX9_eat 14 = .ok (.getfield 79, 3) := dc_180 0 79 (by decide +kernel)
theorem dX9_eat_17 : decode cX9_eat 17 = .ok (.if_icmp .ge 97, 3) := dc_162 0 97 97 (by decide +kernel)
theorem dX9_eat_114 : decode cX9_eat 114 = .ok (.return_, 1) := dc_177 (by decide +kernel)
theorem dX9_eat_20 : decode cX9_eat 20 = .ok (.aload_n 0, 1) := dc_42 (by decide +kernel)
theorem dX9_eat_21 : decode cX9_eat 21 = .ok (.getfield 20, 3) := dc_180 0 20 (by decide +kernel)
theorem dX9_eat_24 : decode cX9_eat 24 = .ok (.iload_n 2, 1) := dc_28 (by decide +kernel)
theorem dX9_eat_25 : decode cX9_eat 25 = .ok (.aaload, 1) := dc_50 (by decide +kernel)
theorem dX9_eat_26 : decode cX9_eat 26 = .ok (.astore_n 3, 1) := dc_78 (by decide +kernel)
theorem dX9_eat_27 : decode cX9_eat 27 = .ok (.aload_n 3, 1) := dc_45 (by decide +kernel)
theorem dX9_eat_28 : decode cX9_eat 28 = .ok (.getfield 168, 3) := dc_180 0 168 (by decide +kernel)
theorem dX9_eat_31 : decode cX9_eat 31 = .ok (.bipush 6, 2) := dc_16 6 6 (by decide +kernel)
theorem dX9_eat_33 : decode cX9_eat 33 = .ok (.if_icmp .eq 6, 3) := dc_159 0 6 6 (by decide +kernel)
theorem dX9_eat_39 : decode cX9_eat 39 = .ok (.aload_n 0, 1) := dc_42 (by decide +kernel)
theorem dX9_eat_40 : decode cX9_eat 40 = .ok (.getfield 50, 3) := dc_180 0 50 (by decide +kernel)
theorem dX9_eat_43 : decode cX9_eat 43 = .ok (.getfield 269, 3) := dc_180 1 13 (by decide +kernel)
theorem kw_1_110 : (Jvm.Cond.fieldLink "ParishUnion$Union" (269 : Nat) "ParishUnion$House" "store" "I") ∈ gT := gT_of (tb_1 _ (List.mem_of_getElem? (i := 110) rfl)) rfl
theorem dX9_eat_46 : decode cX9_eat 46 = .ok (.iload_n 1, 1) := dc_27 (by decide +kernel)
theorem dX9_eat_47 : decode cX9_eat 47 = .ok (.if_icmp .lt 51, 3) := dc_161 0 51 51 (by decide +kernel)
theorem dX9_eat_98 : decode cX9_eat 98 = .ok (.aload_n 3, 1) := dc_45 (by decide +kernel)
theorem dX9_eat_99 : decode cX9_eat 99 = .ok (.dup, 1) := dc_89 (by decide +kernel)
theorem dX9_eat_100 : decode cX9_eat 100 = .ok (.getfield 213, 3) := dc_180 0 213 (by decide +kernel)
theorem dX9_eat_103 : decode cX9_eat 103 = .ok (.iconst 2, 1) := dc_5 (by decide +kernel)
theorem dX9_eat_104 : decode cX9_eat 104 = .ok (.iadd, 1) := dc_96 (by decide +kernel)
theorem dX9_eat_105 : decode cX9_eat 105 = .ok (.putfield 213, 3) := dc_181 0 213 (by decide +kernel)
theorem dX9_eat_108 : decode cX9_eat 108 = .ok (.iinc 2 1, 3) := dc_132 2 1 1 (by decide +kernel)
theorem dX9_eat_111 : decode cX9_eat 111 = .ok (.goto (-99), 3) := dc_167 255 157 (-99) (by decide +kernel)
theorem dX9_eat_50 : decode cX9_eat 50 = .ok (.aload_n 0, 1) := dc_42 (by decide +kernel)
theorem dX9_eat_51 : decode cX9_eat 51 = .ok (.getfield 50, 3) := dc_180 0 50 (by decide +kernel)
theorem dX9_eat_54 : decode cX9_eat 54 = .ok (.dup, 1) := dc_89 (by decide +kernel)
theorem dX9_eat_55 : decode cX9_eat 55 = .ok (.getfield 269, 3) := dc_180 1 13 (by decide +kernel)
theorem dX9_eat_58 : decode cX9_eat 58 = .ok (.iload_n 1, 1) := dc_27 (by decide +kernel)
theorem dX9_eat_59 : decode cX9_eat 59 = .ok (.isub, 1) := dc_100 (by decide +kernel)
theorem dX9_eat_60 : decode cX9_eat 60 = .ok (.putfield 269, 3) := dc_181 1 13 (by decide +kernel)
theorem dX9_eat_63 : decode cX9_eat 63 = .ok (.aload_n 3, 1) := dc_45 (by decide +kernel)
theorem dX9_eat_64 : decode cX9_eat 64 = .ok (.iload_n 1, 1) := dc_27 (by decide +kernel)
theorem dX9_eat_65 : decode cX9_eat 65 = .ok (.putfield 272, 3) := dc_181 1 16 (by decide +kernel)
theorem kw_1_216 : (Jvm.Cond.fieldLink "ParishUnion$Union" (272 : Nat) "ParishUnion$Person" "eaten" "I") ∈ gT := gT_of (tb_1 _ (List.mem_of_getElem? (i := 216) rfl)) rfl
theorem dX9_eat_68 : decode cX9_eat 68 = .ok (.aload_n 3, 1) := dc_45 (by decide +kernel)
theorem dX9_eat_69 : decode cX9_eat 69 = .ok (.iconst 0, 1) := dc_3 (by decide +kernel)
theorem dX9_eat_70 : decode cX9_eat 70 = .ok (.aload_n 3, 1) := dc_45 (by decide +kernel)
theorem dX9_eat_71 : decode cX9_eat 71 = .ok (.getfield 213, 3) := dc_180 0 213 (by decide +kernel)
theorem dX9_eat_74 : decode cX9_eat 74 = .ok (.iconst 3, 1) := dc_6 (by decide +kernel)
theorem dX9_eat_75 : decode cX9_eat 75 = .ok (.isub, 1) := dc_100 (by decide +kernel)
theorem dX9_eat_76 : decode cX9_eat 76 = .ok (.invokestatic 233, 3) := dc_184 0 233 (by decide +kernel)
theorem dX9_eat_79 : decode cX9_eat 79 = .ok (.putfield 213, 3) := dc_181 0 213 (by decide +kernel)
theorem dX9_eat_82 : decode cX9_eat 82 = .ok (.aload_n 0, 1) := dc_42 (by decide +kernel)
theorem dX9_eat_83 : decode cX9_eat 83 = .ok (.getfield 57, 3) := dc_180 0 57 (by decide +kernel)
theorem dX9_eat_86 : decode cX9_eat 86 = .ok (.aload_n 0, 1) := dc_42 (by decide +kernel)
theorem dX9_eat_87 : decode cX9_eat 87 = .ok (.getfield 110, 3) := dc_180 0 110 (by decide +kernel)
theorem dX9_eat_90 : decode cX9_eat 90 = .ok (.iconst 0, 1) := dc_3 (by decide +kernel)
theorem dX9_eat_91 : decode cX9_eat 91 = .ok (.iload_n 1, 1) := dc_27 (by decide +kernel)
theorem dX9_eat_92 : decode cX9_eat 92 = .ok (.invokevirtual 243, 3) := dc_182 0 243 (by decide +kernel)
theorem dX9_eat_95 : decode cX9_eat 95 = .ok (.goto 13, 3) := dc_167 0 13 13 (by decide +kernel)
theorem dX9_eat_36 : decode cX9_eat 36 = .ok (.goto 72, 3) := dc_167 0 72 72 (by decide +kernel)
abbrev R_X9_eat : Room := { frames := 4, cells := 0, slots := 0, locals := 120 }
set_option maxRecDepth 100000 in
set_option maxHeartbeats 4000000 in
theorem s_X9_eat {l : Launch} {n0 : Nat} {D : va_G} {cA : Nat → ClassId} {M : gM}  {sz : Nat} (hsz : 206 ≤ sz) (I : gI sz M) (C : gC sz M) (q_1_15 : 0 ≤ M 1 15 ∧ M 1 15 ≤ 299)  : Met l yX9_eat (gWsOf yX9_eat cX9_eat 4 (Option.none : Option Jvm.ClassFile.FieldType)) R_X9_eat (gPc n0 D cA [gA n0 1] M sz) (gQv n0 D cA sz (fun M1 => gI sz M1 ∧ gC sz M1 ∧ gFr 67664 M M1)) 0 0 (fun q => n0 ≤ q) := by
  refine gMetV [gA n0 1] (by decide) (Nat.le_of_ble_eq_true rfl) ⟨rfl, rfl⟩ ?_
  intro p e s m args below meth cd Q X hq
  have X : gCx p s m args meth cd n0 D cA "ParishUnion$Union" cX9_eat 4 := X
  show G p l e R_X9_eat s m args below meth cd n0 D cA 4 Q 0 0 M sz 0 [(0, gA n0 1)] []
  obtain ⟨v1, hv1, rv1⟩ := gRd I (by decide) (gsz hsz (by decide)) rc_1_15.1
  refine g_aload_n (n := 1) X 0 dX9_eat_0 rfl rfl rfl ?_
  refine g_iconst (n := 2) X dX9_eat_1 rfl ?_
  refine g_aload_n (n := 3) X 0 dX9_eat_2 rfl rfl rfl ?_
  refine gg_9_15 (n := 6) (z := v1) X (by decide) (gsz hsz (by decide)) lay_1 kw_2_138 dX9_eat_3 rfl hv1 ?_
  refine g_callVi (n := 9) (As := [gJ 2, gJ v1]) (rest := []) (cs1 := 0) (ss1 := 0) X (s_X9_law 2 (by omega) v1 (by omega) hsz I C ) okX9_law kw_4_213 ⟨kw_3_138, kw_3_139⟩ ⟨rfl, rfl⟩ ⟨Nat.le_of_ble_eq_true rfl, Nat.le_of_ble_eq_true rfl⟩ rfl (by decide) (gsz hsz (by decide)) lay_1 rfl rfl (Nat.le_of_ble_eq_true rfl) ⟨Nat.le_of_ble_eq_true rfl, Nat.le_of_ble_eq_true rfl⟩ rfl rfl dX9_eat_6 rfl (fun v2 M3 P4 => ?_)
  obtain ⟨rfl, rv2⟩ := P4
  refine g_istore_n (n := 10) (L' := [(1, gJ v2), (0, gA n0 1)]) X dX9_eat_9 rfl (by decide) rfl rfl ?_
  refine g_iconst (n := 11) X dX9_eat_10 rfl ?_
  refine g_istore_n (n := 12) (L' := [(2, gJ 0), (1, gJ v2), (0, gA n0 1)]) X dX9_eat_11 rfl (by decide) rfl rfl ?_
  have j7 : ∀ (N248 : Nat) (v5 : Int) (M6 : gM) , (0 ≤ v5 ∧ v5 ≤ 16) → gI sz M6 → gC sz M6 → gFr 67664 M M6 → (16 - v5).toNat < N248 → G p l e R_X9_eat s m args below meth cd n0 D cA 4 Q 0 0 M6 sz 12 [(0, gA n0 1), (1, gJ v2), (2, gJ v5)] [] := by
    intro N248; induction N248 with
    | zero => intro v5 M6 rv5 IM6 CM6 FM6 hm250; exfalso; omega
    | succ N248 ih249 =>
      intro v5 M6 rv5 IM6 CM6 FM6 hm250
      refine g_iload_n (n := 13) X 2 dX9_eat_12 rfl rfl rfl ?_
      refine g_aload_n (n := 14) X 0 dX9_eat_13 rfl rfl rfl ?_
      obtain ⟨v251, hv251, rv251⟩ := gRd IM6 (by decide) (gsz hsz (by decide)) rc_1_10.1
      refine gg_9_10 (n := 17) (z := v251) X (by decide) (gsz hsz (by decide)) lay_1 kw_2_126 dX9_eat_14 rfl hv251 ?_
      refine g_icmp_ge (n := 20) (tgt := 114) X dX9_eat_17 (by decide) (by omega) (by omega) rfl (fun c252 => ?_) (fun c252 => ?_)
      · exact hq _ _ _ dX9_eat_114 ⟨IM6, CM6, (gFr.c gFr.rf FM6 rfl)⟩
      · refine g_aload_n (n := 21) X 0 dX9_eat_20 rfl rfl rfl ?_
        refine gg_9_1 (n := 24) (z := 5) X (by decide) (gsz hsz (by decide)) lay_1 kw_2_106 dX9_eat_21 rfl (rf_1_1 IM6 (gsz hsz (by decide))) (by decide) ?_
        refine g_iload_n (n := 25) X 2 dX9_eat_24 rfl rfl rfl ?_
        obtain ⟨o253, ho253, ro253⟩ : ∃ o : Int, o = 31 + v5 ∧ (31 ≤ o ∧ o < 47) := ⟨_, rfl, by omega⟩
        refine g_aald6 (n := 26) (t := o253) X (by decide) (gsz hsz (by decide)) lay_5 (by omega) (by omega) (by decide) (gA5 IM6 hsz (by omega) (by omega) (by omega)) (by omega) dX9_eat_25 rfl ?_
        refine g_astore_n (n := 27) (L' := [(3, gA n0 o253), (0, gA n0 1), (1, gJ v2), (2, gJ v5)]) X dX9_eat_26 rfl (by decide) rfl rfl ?_
        refine g_aload_n (n := 28) X 0 dX9_eat_27 rfl rfl rfl ?_
        obtain ⟨v254, hv254, rv254⟩ := gRd IM6 (Po0 ro253) (Posz hsz ro253) (rP_5 ro253).1
        refine gg_6_5 (n := 31) (z := v254) X (Po0 ro253) (Posz hsz ro253) (lay2_P ro253) kw_1_195 dX9_eat_28 rfl hv254 ?_
        refine g_bipush (n := 33) X dX9_eat_31 (by decide +kernel) rfl ?_
        refine g_icmp_eq (n := 36) (tgt := 39) X dX9_eat_33 (by decide) (by omega) (by omega) rfl (fun c255 => ?_) (fun c255 => ?_)
        · refine g_aload_n (n := 40) X 1 dX9_eat_39 rfl rfl rfl ?_
          refine gg_9_6 (n := 43) (z := 15) X (by decide) (gsz hsz (by decide)) lay_1 kw_2_118 dX9_eat_40 rfl (rf_1_6 IM6 (gsz hsz (by decide))) (by decide) ?_
          obtain ⟨v256, hv256, rv256⟩ := gRd IM6 (by decide) (gsz hsz (by decide)) rc_15_8.1
          refine gg_2_8 (n := 46) (z := v256) X (by decide) (gsz hsz (by decide)) lay_15 kw_1_110 dX9_eat_43 rfl hv256 ?_
          refine g_iload_n (n := 47) X 2 dX9_eat_46 rfl rfl rfl ?_
          refine g_icmp_lt (n := 50) (tgt := 98) X dX9_eat_47 (by decide) (by omega) (by omega) rfl (fun c257 => ?_) (fun c257 => ?_)
          · refine g_aload_n (n := 99) X 0 dX9_eat_98 rfl rfl rfl ?_
            refine g_dup (n := 100) X dX9_eat_99 rfl rfl ?_
            obtain ⟨v258, hv258, rv258⟩ := gRd IM6 (Po0 ro253) (Posz hsz ro253) (rP_6 ro253).1
            refine gg_6_6 (n := 103) (z := v258) X (Po0 ro253) (Posz hsz ro253) (lay2_P ro253) kw_1_199 dX9_eat_100 rfl hv258 ?_
            refine g_iconst (n := 104) X dX9_eat_103 rfl ?_
            refine g_iaddA (n := 105) X dX9_eat_104 rfl (fun v259 rv259 xv259 => ?_)
            clear xv259
            refine gp_6_6 (n := 108) X (Po0 ro253) (Posz hsz ro253) (lay2_P ro253) kw_1_199 dX9_eat_105 rfl ?_
            refine G.nm (fun M260 e261 => ?_)
            have IM260 : gI sz M260 := gI.set IM6 (rP_6 ro253).1 (by omega) e261
            have CM260 : gC sz M260 := gC.set CM6 (rP_6 ro253).2.1 e261
            refine g_iinc (n := 111) (w := v5 + 1) (L' := [(2, gJ (v5 + 1)), (3, gA n0 o253), (0, gA n0 1), (1, gJ v2)]) X 3 dX9_eat_108 rfl rfl (by decide) rfl rfl ?_
            refine g_goto (tgt := 12) X dX9_eat_111 (by decide) ?_
            refine G.sub (L' := [(0, gA n0 1), (1, gJ v2), (2, gJ (v5 + 1))]) [2, 3, 0] rfl ?_
            exact ih249 (v5 + 1) M260 (by omega) IM260 CM260 (gFr.s (gFr.c gFr.rf FM6 rfl) e261 (rP_6 ro253).2.2 rfl) (by omega)
          · refine g_aload_n (n := 51) X 1 dX9_eat_50 rfl rfl rfl ?_
            refine gg_9_6 (n := 54) (z := 15) X (by decide) (gsz hsz (by decide)) lay_1 kw_2_118 dX9_eat_51 rfl (rf_1_6 IM6 (gsz hsz (by decide))) (by decide) ?_
            refine g_dup (n := 55) X dX9_eat_54 rfl rfl ?_
            refine gg_2_8 (n := 58) (z := v256) X (by decide) (gsz hsz (by decide)) lay_15 kw_1_110 dX9_eat_55 rfl hv256 ?_
            refine g_iload_n (n := 59) X 2 dX9_eat_58 rfl rfl rfl ?_
            refine g_isubA (n := 60) X dX9_eat_59 rfl (fun v262 rv262 xv262 => ?_)
            clear xv262
            refine gp_2_8 (n := 63) X (by decide) (gsz hsz (by decide)) lay_15 kw_1_110 dX9_eat_60 rfl ?_
            refine G.nm (fun M263 e264 => ?_)
            have IM263 : gI sz M263 := gI.set IM6 rc_15_8.1 (by omega) e264
            have CM263 : gC sz M263 := gC.set CM6 rc_15_8.2.1 e264
            refine g_aload_n (n := 64) X 0 dX9_eat_63 rfl rfl rfl ?_
            refine g_iload_n (n := 65) X 2 dX9_eat_64 rfl rfl rfl ?_
            refine gp_6_12 (n := 68) X (Po0 ro253) (Posz hsz ro253) (lay2_P ro253) kw_1_216 dX9_eat_65 rfl ?_
            refine G.nm (fun M265 e266 => ?_)
            have IM265 : gI sz M265 := gI.set IM263 (rP_12 ro253).1 (by omega) e266
            have CM265 : gC sz M265 := gC.set CM263 (rP_12 ro253).2.1 e266
            refine g_aload_n (n := 69) X 0 dX9_eat_68 rfl rfl rfl ?_
            refine g_iconst (n := 70) X dX9_eat_69 rfl ?_
            refine g_aload_n (n := 71) X 0 dX9_eat_70 rfl rfl rfl ?_
            obtain ⟨v267, hv267, rv267⟩ := gRd IM265 (Po0 ro253) (Posz hsz ro253) (rP_6 ro253).1
            refine gg_6_6 (n := 74) (z := v267) X (Po0 ro253) (Posz hsz ro253) (lay2_P ro253) kw_1_199 dX9_eat_71 rfl hv267 ?_
            refine g_iconst (n := 75) X dX9_eat_74 rfl ?_
            refine g_isubA (n := 76) X dX9_eat_75 rfl (fun v268 rv268 xv268 => ?_)
            clear xv268
            refine g_mmax (n := 79) X kw_4_203 kw_3_153 kw_1_14 kw_3_154 (by omega) (by omega) (Nat.le_of_ble_eq_true rfl) (Nat.le_of_ble_eq_true rfl) (Nat.le_of_ble_eq_true rfl) (Nat.le_of_ble_eq_true rfl) dX9_eat_76 rfl (fun x269 hx269 => ?_)
            have rx269 : 0 ≤ x269 ∧ x269 ≤ 2147483647 := by omega
            refine gp_6_6 (n := 82) X (Po0 ro253) (Posz hsz ro253) (lay2_P ro253) kw_1_199 dX9_eat_79 rfl ?_
            refine G.nm (fun M270 e271 => ?_)
            have IM270 : gI sz M270 := gI.set IM265 (rP_6 ro253).1 (by omega) e271
            have CM270 : gC sz M270 := gC.set CM265 (rP_6 ro253).2.1 e271
            refine g_aload_n (n := 83) X 1 dX9_eat_82 rfl rfl rfl ?_
            refine gg_9_7 (n := 86) (z := 23) X (by decide) (gsz hsz (by decide)) lay_1 kw_2_120 dX9_eat_83 rfl (rf_1_7 IM270 (gsz hsz (by decide))) (by decide) ?_
            refine g_aload_n (n := 87) X 1 dX9_eat_86 rfl rfl rfl ?_
            refine gg_9_15 (n := 90) (z := v1) X (by decide) (gsz hsz (by decide)) lay_1 kw_2_138 dX9_eat_87 rfl ((congrFun (congrFun e271 _) _).trans ((gset_ne (by omega)).trans ((congrFun (congrFun e266 _) _).trans ((gset_ne (by omega)).trans ((congrFun (congrFun e264 _) _).trans ((gset_ne (by omega)).trans ((gFr.at FM6 rc_1_15.2.2 rfl).trans hv1))))))) ?_
            refine g_iconst (n := 91) X dX9_eat_90 rfl ?_
            refine g_iload_n (n := 92) X 2 dX9_eat_91 rfl rfl rfl ?_
            refine g_callVv (n := 95) (As := [gJ v1, gJ 0, gJ v2]) (rest := []) (cs1 := 0) (ss1 := 0) X (s_X5_add v1 (by omega) 0 (by omega) v2 (by omega) hsz IM270 CM270 ) okX5_add kw_4_205 ⟨kw_4_206, kw_4_207⟩ ⟨rfl, rfl⟩ ⟨Nat.le_of_ble_eq_true rfl, Nat.le_of_ble_eq_true rfl⟩ rfl (by decide) (gsz hsz (by decide)) lay_23 rfl rfl (Nat.le_of_ble_eq_true rfl) ⟨Nat.le_of_ble_eq_true rfl, Nat.le_of_ble_eq_true rfl⟩ rfl rfl dX9_eat_92 rfl (fun M273 P274 => ?_)
            obtain ⟨IM273, CM273, FM273⟩ := P274
            refine g_goto (tgt := 108) X dX9_eat_95 (by decide) ?_
            refine g_iinc (n := 111) (w := v5 + 1) (L' := [(2, gJ (v5 + 1)), (3, gA n0 o253), (0, gA n0 1), (1, gJ v2)]) X 3 dX9_eat_108 rfl rfl (by decide) rfl rfl ?_
            refine g_goto (tgt := 12) X dX9_eat_111 (by decide) ?_
            refine G.sub (L' := [(0, gA n0 1), (1, gJ v2), (2, gJ (v5 + 1))]) [2, 3, 0] rfl ?_
            exact ih249 (v5 + 1) M273 (by omega) IM273 CM273 (gFr.c (gFr.s (gFr.s (gFr.s (gFr.c gFr.rf FM6 rfl) e264 rc_15_8.2.2 rfl) e266 (rP_12 ro253).2.2 rfl) e271 (rP_6 ro253).2.2 rfl) FM273 rfl) (by omega)
        · refine g_goto (tgt := 108) X dX9_eat_36 (by decide) ?_
          refine g_iinc (n := 111) (w := v5 + 1) (L' := [(2, gJ (v5 + 1)), (3, gA n0 o253), (0, gA n0 1), (1, gJ v2)]) X 3 dX9_eat_108 rfl rfl (by decide) rfl rfl ?_
          refine g_goto (tgt := 12) X dX9_eat_111 (by decide) ?_
          refine G.sub (L' := [(0, gA n0 1), (1, gJ v2), (2, gJ (v5 + 1))]) [2, 3, 0] rfl ?_
          exact ih249 (v5 + 1) M6 (by omega) IM6 CM6 (gFr.c gFr.rf FM6 rfl) (by omega)
  refine G.sub (L' := [(0, gA n0 1), (1, gJ v2), (2, gJ 0)]) [2, 1, 0] rfl ?_
  exact j7 _ 0 M (by omega) I C gFr.rf (Nat.lt_succ_self _)
theorem dX9_fallIll_0 : decode cX9_fallIll 0 = .ok (.aload_n 0, 1) := dc_42 (by decide +kernel)
theorem dX9_fallIll_1 : decode cX9_fallIll 1 = .ok (.getfield 50, 3) := dc_180 0 50 (by decide +kernel)
theorem dX9_fallIll_4 : decode cX9_fallIll 4 = .ok (.getfield 158, 3) := dc_180 0 158 (by decide +kernel)
theorem dX9_fallIll_7 : decode cX9_fallIll 7 = .ok (.aload_n 0, 1) := dc_42 (by decide +kernel)
theorem dX9_fallIll_8 : decode cX9_fallIll 8 = .ok (.getfield 110, 3) := dc_180 0 110 (by decide +kernel)
theorem dX9_fallIll_11 : decode cX9_fallIll 11 = .ok (.iaload, 1) := dc_46 (by decide +kernel)
theorem dX9_fallIll_12 : decode cX9_fallIll 12 = .ok (.istore_n 1, 1) := dc_60 (by decide +kernel)
theorem dX9_fallIll_13 : decode cX9_fallIll 13 = .ok (.iconst 0, 1) := dc_3 (by decide +kernel)
theorem dX9_fallIll_14 : decode cX9_fallIll 14 = .ok (.istore_n 2, 1) := dc_61 (by decide +kernel)
theorem dX9_fallIll_15 : decode cX9_fallIll 15 = .ok (.iload_n 2, 1) := dc_28 (by decide +kernel)
theorem dX9_fallIll_16 : decode cX9_fallIll 16 = .ok (.aload_n 0, 1) := dc_42 (by decide +kernel)
theorem dX9_fallIll_17 : decode cX9_fallIll 17 = .ok (.getfield 79, 3) := dc_180 0 79 (by decide +kernel)
theorem dX9_fallIll_20 : decode cX9_fallIll 20 = .ok (.if_icmp .ge 93, 3) := dc_162 0 93 93 (by decide +kernel)
theorem dX9_fallIll_113 : decode cX9_fallIll 113 = .ok (.return_, 1) := dc_177 (by decide +kernel)
theorem dX9_fallIll_23 : decode cX9_fallIll 23 = .ok (.aload_n 0, 1) := dc_42 (by decide +kernel)
theorem dX9_fallIll_24 : decode cX9_fallIll 24 = .ok (.getfield 20, 3) := dc_180 0 20 (by decide +kernel)
theorem dX9_fallIll_27 : decode cX9_fallIll 27 = .ok (.iload_n 2, 1) := dc_28 (by decide +kernel)
theorem dX9_fallIll_28 : decode cX9_fallIll 28 = .ok (.aaload, 1) := dc_50 (by decide +kernel)
theorem dX9_fallIll_29 : decode cX9_fallIll 29 = .ok (.astore_n 3, 1) := dc_78 (by decide +kernel)
theorem dX9_fallIll_30 : decode cX9_fallIll 30 = .ok (.aload_n 3, 1) := dc_45 (by decide +kernel)
theorem dX9_fallIll_31 : decode cX9_fallIll 31 = .ok (.getfield 168, 3) := dc_180 0 168 (by decide +kernel)
theorem dX9_fallIll_34 : decode cX9_fallIll 34 = .ok (.bipush 6, 2) := dc_16 6 6 (by decide +kernel)
theorem dX9_fallIll_36 : decode cX9_fallIll 36 = .ok (.if_icmp .ne 71, 3) := dc_160 0 71 71 (by decide +kernel)
theorem dX9_fallIll_107 : decode cX9_fallIll 107 = .ok (.iinc 2 1, 3) := dc_132 2 1 1 (by decide +kernel)
theorem dX9_fallIll_110 : decode cX9_fallIll 110 = .ok (.goto (-95), 3) := dc_167 255 161 (-95) (by decide +kernel)
theorem dX9_fallIll_39 : decode cX9_fallIll 39 = .ok (.iconst 2, 1) := dc_5 (by decide +kernel)
theorem dX9_fallIll_40 : decode cX9_fallIll 40 = .ok (.aload_n 0, 1) := dc_42 (by decide +kernel)
theorem dX9_fallIll_41 : decode cX9_fallIll 41 = .ok (.aload_n 3, 1) := dc_45 (by decide +kernel)
theorem dX9_fallIll_42 : decode cX9_fallIll 42 = .ok (.getfield 174, 3) := dc_180 0 174 (by decide +kernel)
theorem dX9_fallIll_45 : decode cX9_fallIll 45 = .ok (.invokevirtual 256, 3) := dc_182 1 0 (by decide +kernel)
theorem dX9_fallIll_48 : decode cX9_fallIll 48 = .ok (.imul, 1) := dc_104 (by decide +kernel)
theorem dX9_fallIll_49 : decode cX9_fallIll 49 = .ok (.aload_n 0, 1) := dc_42 (by decide +kernel)
theorem dX9_fallIll_50 : decode cX9_fallIll 50 = .ok (.getfield 50, 3) := dc_180 0 50 (by decide +kernel)
theorem dX9_fallIll_53 : decode cX9_fallIll 53 = .ok (.getfield 260, 3) := dc_180 1 4 (by decide +kernel)
theorem dX9_fallIll_56 : decode cX9_fallIll 56 = .ok (.aload_n 3, 1) := dc_45 (by decide +kernel)
theorem dX9_fallIll_57 : decode cX9_fallIll 57 = .ok (.getfield 174, 3) := dc_180 0 174 (by decide +kernel)
theorem dX9_fallIll_60 : decode cX9_fallIll 60 = .ok (.iaload, 1) := dc_46 (by decide +kernel)
theorem dX9_fallIll_61 : decode cX9_fallIll 61 = .ok (.if_icmp .le 7, 3) := dc_164 0 7 7 (by decide +kernel)
theorem dX9_fallIll_68 : decode cX9_fallIll 68 = .ok (.iconst 0, 1) := dc_3 (by decide +kernel)
theorem dX9_fallIll_69 : decode cX9_fallIll 69 = .ok (.istore 4, 2) := dc_54 4 (by decide +kernel)
theorem dX9_fallIll_71 : decode cX9_fallIll 71 = .ok (.aload_n 3, 1) := dc_45 (by decide +kernel)
theorem dX9_fallIll_72 : decode cX9_fallIll 72 = .ok (.iload 4, 2) := dc_21 4 (by decide +kernel)
theorem dX9_fallIll_74 : decode cX9_fallIll 74 = .ok (.ifCond .eq 20, 3) := dc_153 0 20 20 (by decide +kernel)
theorem dX9_fallIll_94 : decode cX9_fallIll 94 = .ok (.iconst 0, 1) := dc_3 (by decide +kernel)
theorem dX9_fallIll_95 : decode cX9_fallIll 95 = .ok (.aload_n 3, 1) := dc_45 (by decide +kernel)
theorem dX9_fallIll_96 : decode cX9_fallIll 96 = .ok (.getfield 275, 3) := dc_180 1 19 (by decide +kernel)
theorem kw_1_202 : (Jvm.Cond.fieldLink "ParishUnion$Union" (275 : Nat) "ParishUnion$Person" "ill" "I") ∈ gT := gT_of (tb_1 _ (List.mem_of_getElem? (i := 202) rfl)) rfl
theorem dX9_fallIll_99 : decode cX9_fallIll 99 = .ok (.iconst 1, 1) := dc_4 (by decide +kernel)
theorem dX9_fallIll_100 : decode cX9_fallIll 100 = .ok (.isub, 1) := dc_100 (by decide +kernel)
theorem dX9_fallIll_101 : decode cX9_fallIll 101 = .ok (.invokestatic 233, 3) := dc_184 0 233 (by decide +kernel)
theorem dX9_fallIll_104 : decode cX9_fallIll 104 = .ok (.putfield 275, 3) := dc_181 1 19 (by decide +kernel)
theorem dX9_fallIll_64 : decode cX9_fallIll 64 = .ok (.iconst 1, 1) := dc_4 (by decide +kernel)
theorem dX9_fallIll_65 : decode cX9_fallIll 65 = .ok (.goto 4, 3) := dc_167 0 4 4 (by decide +kernel)
theorem dX9_fallIll_77 : decode cX9_fallIll 77 = .ok (.aload_n 3, 1) := dc_45 (by decide +kernel)
theorem dX9_fallIll_78 : decode cX9_fallIll 78 = .ok (.getfield 230, 3) := dc_180 0 230 (by decide +kernel)
theorem dX9_fallIll_81 : decode cX9_fallIll 81 = .ok (.iload_n 1, 1) := dc_27 (by decide +kernel)
theorem dX9_fallIll_82 : decode cX9_fallIll 82 = .ok (.if_icmp .ge 12, 3) := dc_162 0 12 12 (by decide +kernel)
theorem dX9_fallIll_85 : decode cX9_fallIll 85 = .ok (.aload_n 3, 1) := dc_45 (by decide +kernel)
theorem dX9_fallIll_86 : decode cX9_fallIll 86 = .ok (.getfield 275, 3) := dc_180 1 19 (by decide +kernel)
theorem dX9_fallIll_89 : decode cX9_fallIll 89 = .ok (.iconst 1, 1) := dc_4 (by decide +kernel)
theorem dX9_fallIll_90 : decode cX9_fallIll 90 = .ok (.iadd, 1) := dc_96 (by decide +kernel)
theorem dX9_fallIll_91 : decode cX9_fallIll 91 = .ok (.goto 13, 3) := dc_167 0 13 13 (by decide +kernel)
abbrev R_X9_fallIll : Room := { frames := 4, cells := 0, slots := 0, locals := 120 }
set_option maxRecDepth 100000 in
set_option maxHeartbeats 4000000 in
theorem s_X9_fallIll {l : Launch} {n0 : Nat} {D : va_G} {cA : Nat → ClassId} {M : gM}  {sz : Nat} (hsz : 206 ≤ sz) (I : gI sz M) (C : gC sz M) (q_1_15 : 0 ≤ M 1 15 ∧ M 1 15 ≤ 299)  : Met l yX9_fallIll (gWsOf yX9_fallIll cX9_fallIll 5 (Option.none : Option Jvm.ClassFile.FieldType)) R_X9_fallIll (gPc n0 D cA [gA n0 1] M sz) (gQv n0 D cA sz (fun M1 => gI sz M1 ∧ gC sz M1 ∧ gFr 16 M M1)) 0 0 (fun q => n0 ≤ q) := by
  refine gMetV [gA n0 1] (by decide) (Nat.le_of_ble_eq_true rfl) ⟨rfl, rfl⟩ ?_
  intro p e s m args below meth cd Q X hq
  have X : gCx p s m args meth cd n0 D cA "ParishUnion$Union" cX9_fallIll 5 := X
  show G p l e R_X9_fallIll s m args below meth cd n0 D cA 5 Q 0 0 M sz 0 [(0, gA n0 1)] []
  obtain ⟨v1, hv1, rv1⟩ := gRd I (by decide) (gsz hsz (by decide)) rc_1_15.1
  refine g_aload_n (n := 1) X 0 dX9_fallIll_0 rfl rfl rfl ?_
  refine gg_9_6 (n := 4) (z := 15) X (by decide) (gsz hsz (by decide)) lay_1 kw_2_118 dX9_fallIll_1 rfl (rf_1_6 I (gsz hsz (by decide))) (by decide) ?_
  refine gg_2_1 (n := 7) (z := 17) X (by decide) (gsz hsz (by decide)) lay_15 kw_1_99 dX9_fallIll_4 rfl (rf_15_1 I (gsz hsz (by decide))) (by decide) ?_
  refine g_aload_n (n := 8) X 0 dX9_fallIll_7 rfl rfl rfl ?_
  refine gg_9_15 (n := 11) (z := v1) X (by decide) (gsz hsz (by decide)) lay_1 kw_2_138 dX9_fallIll_8 rfl hv1 ?_
  obtain ⟨v2, hv2, rv2⟩ := gRd I (by decide) (gsz hsz (by decide)) (ra_17 v1).1
  refine g_iald2 (n := 12) (v := v2) X (by decide) (gsz hsz (by decide)) lay_17 (by omega) (by omega) (by decide) dX9_fallIll_11 rfl hv2 ?_
  refine g_istore_n (n := 13) (L' := [(1, gJ v2), (0, gA n0 1)]) X dX9_fallIll_12 rfl (by decide) rfl rfl ?_
  refine g_iconst (n := 14) X dX9_fallIll_13 rfl ?_
  refine g_istore_n (n := 15) (L' := [(2, gJ 0), (1, gJ v2), (0, gA n0 1)]) X dX9_fallIll_14 rfl (by decide) rfl rfl ?_
  have j5 : ∀ (N276 : Nat) (v3 : Int) (M4 : gM) , (0 ≤ v3 ∧ v3 ≤ 16) → gI sz M4 → gC sz M4 → gFr 16 M M4 → (16 - v3).toNat < N276 → G p l e R_X9_fallIll s m args below meth cd n0 D cA 5 Q 0 0 M4 sz 15 [(0, gA n0 1), (1, gJ v2), (2, gJ v3)] [] := by
    intro N276; induction N276 with
    | zero => intro v3 M4 rv3 IM4 CM4 FM4 hm278; exfalso; omega
    | succ N276 ih277 =>
      intro v3 M4 rv3 IM4 CM4 FM4 hm278
      refine g_iload_n (n := 16) X 2 dX9_fallIll_15 rfl rfl rfl ?_
      refine g_aload_n (n := 17) X 0 dX9_fallIll_16 rfl rfl rfl ?_
      obtain ⟨v279, hv279, rv279⟩ := gRd IM4 (by decide) (gsz hsz (by decide)) rc_1_10.1
      refine gg_9_10 (n := 20) (z := v279) X (by decide) (gsz hsz (by decide)) lay_1 kw_2_126 dX9_fallIll_17 rfl hv279 ?_
      refine g_icmp_ge (n := 23) (tgt := 113) X dX9_fallIll_20 (by decide) (by omega) (by omega) rfl (fun c280 => ?_) (fun c280 => ?_)
      · exact hq _ _ _ dX9_fallIll_113 ⟨IM4, CM4, (gFr.c gFr.rf FM4 rfl)⟩
      · refine g_aload_n (n := 24) X 0 dX9_fallIll_23 rfl rfl rfl ?_
        refine gg_9_1 (n := 27) (z := 5) X (by decide) (gsz hsz (by decide)) lay_1 kw_2_106 dX9_fallIll_24 rfl (rf_1_1 IM4 (gsz hsz (by decide))) (by decide) ?_
        refine g_iload_n (n := 28) X 2 dX9_fallIll_27 rfl rfl rfl ?_
        obtain ⟨o281, ho281, ro281⟩ : ∃ o : Int, o = 31 + v3 ∧ (31 ≤ o ∧ o < 47) := ⟨_, rfl, by omega⟩
        refine g_aald6 (n := 29) (t := o281) X (by decide) (gsz hsz (by decide)) lay_5 (by omega) (by omega) (by decide) (gA5 IM4 hsz (by omega) (by omega) (by omega)) (by omega) dX9_fallIll_28 rfl ?_
        refine g_astore_n (n := 30) (L' := [(3, gA n0 o281), (0, gA n0 1), (1, gJ v2), (2, gJ v3)]) X dX9_fallIll_29 rfl (by decide) rfl rfl ?_
        refine g_aload_n (n := 31) X 0 dX9_fallIll_30 rfl rfl rfl ?_
        obtain ⟨v282, hv282, rv282⟩ := gRd IM4 (Po0 ro281) (Posz hsz ro281) (rP_5 ro281).1
        refine gg_6_5 (n := 34) (z := v282) X (Po0 ro281) (Posz hsz ro281) (lay2_P ro281) kw_1_195 dX9_fallIll_31 rfl hv282 ?_
        refine g_bipush (n := 36) X dX9_fallIll_34 (by decide +kernel) rfl ?_
        refine g_icmp_ne (n := 39) (tgt := 107) X dX9_fallIll_36 (by decide) (by omega) (by omega) rfl (fun c283 => ?_) (fun c283 => ?_)
        · refine g_iinc (n := 110) (w := v3 + 1) (L' := [(2, gJ (v3 + 1)), (3, gA n0 o281), (0, gA n0 1), (1, gJ v2)]) X 3 dX9_fallIll_107 rfl rfl (by decide) rfl rfl ?_
          refine g_goto (tgt := 15) X dX9_fallIll_110 (by decide) ?_
          refine G.sub (L' := [(0, gA n0 1), (1, gJ v2), (2, gJ (v3 + 1))]) [2, 3, 0] rfl ?_
          exact ih277 (v3 + 1) M4 (by omega) IM4 CM4 (gFr.c gFr.rf FM4 rfl) (by omega)
        · refine g_iconst (n := 40) X dX9_fallIll_39 rfl ?_
          refine g_aload_n (n := 41) X 1 dX9_fallIll_40 rfl rfl rfl ?_
          refine g_aload_n (n := 42) X 0 dX9_fallIll_41 rfl rfl rfl ?_
          obtain ⟨v284, hv284, rv284⟩ := gRd IM4 (Po0 ro281) (Posz hsz ro281) (rP_8 ro281).1
          have wv284 := CM4.2.1 o281 (Or.inl ro281) (hv282.trans (by omega))
          refine gg_6_8 (n := 45) (z := v284) X (Po0 ro281) (Posz hsz ro281) (lay2_P ro281) kw_1_205 dX9_fallIll_42 rfl hv284 ?_
          refine g_callVi (n := 48) (As := [gJ v284]) (rest := [gJ 2]) (cs1 := 0) (ss1 := 0) X (s_X9_bedsTaken v284 (by omega) hsz IM4 CM4 ) okX9_bedsTaken kw_4_215 ⟨kw_4_216, kw_4_217⟩ ⟨rfl, rfl⟩ ⟨Nat.le_of_ble_eq_true rfl, Nat.le_of_ble_eq_true rfl⟩ rfl (by decide) (gsz hsz (by decide)) lay_1 rfl rfl (Nat.le_of_ble_eq_true rfl) ⟨Nat.le_of_ble_eq_true rfl, Nat.le_of_ble_eq_true rfl⟩ rfl rfl dX9_fallIll_45 rfl (fun v285 M286 P287 => ?_)
          obtain ⟨rfl, rv285⟩ := P287
          refine g_imulA (n := 49) X dX9_fallIll_48 rfl (fun v288 rv288 xv288 => ?_)
          clear xv288
          refine g_aload_n (n := 50) X 1 dX9_fallIll_49 rfl rfl rfl ?_
          refine gg_9_6 (n := 53) (z := 15) X (by decide) (gsz hsz (by decide)) lay_1 kw_2_118 dX9_fallIll_50 rfl (rf_1_6 IM4 (gsz hsz (by decide))) (by decide) ?_
          refine gg_2_0 (n := 56) (z := 16) X (by decide) (gsz hsz (by decide)) lay_15 kw_1_96 dX9_fallIll_53 rfl (rf_15_0 IM4 (gsz hsz (by decide))) (by decide) ?_
          refine g_aload_n (n := 57) X 0 dX9_fallIll_56 rfl rfl rfl ?_
          refine gg_6_8 (n := 60) (z := v284) X (Po0 ro281) (Posz hsz ro281) (lay2_P ro281) kw_1_205 dX9_fallIll_57 rfl hv284 ?_
          obtain ⟨v289, hv289, rv289⟩ := gRd IM4 (by decide) (gsz hsz (by decide)) (ra_16 v284).1
          refine g_iald2 (n := 61) (v := v289) X (by decide) (gsz hsz (by decide)) lay_16 (by omega) (by omega) (by decide) dX9_fallIll_60 rfl hv289 ?_
          refine g_icmp_le (n := 64) (tgt := 68) X dX9_fallIll_61 (by decide) (by omega) (by omega) rfl (fun c290 => ?_) (fun c290 => ?_)
          · refine g_iconst (n := 69) X dX9_fallIll_68 rfl ?_
            refine g_istore (n := 71) (L' := [(4, gJ 0), (3, gA n0 o281), (0, gA n0 1), (1, gJ v2), (2, gJ v3)]) X dX9_fallIll_69 (by decide) rfl rfl ?_
            refine g_aload_n (n := 72) X 1 dX9_fallIll_71 rfl rfl rfl ?_
            refine g_iload (n := 74) X 0 dX9_fallIll_72 rfl rfl ?_
            refine g_if_eq (n := 77) (tgt := 94) X dX9_fallIll_74 (by decide) (by omega) rfl (fun c291 => ?_) (fun c291 => by exfalso; omega)
            refine g_iconst (n := 95) X dX9_fallIll_94 rfl ?_
            refine g_aload_n (n := 96) X 1 dX9_fallIll_95 rfl rfl rfl ?_
            obtain ⟨v292, hv292, rv292⟩ := gRd IM4 (Po0 ro281) (Posz hsz ro281) (rP_7 ro281).1
            refine gg_6_7 (n := 99) (z := v292) X (Po0 ro281) (Posz hsz ro281) (lay2_P ro281) kw_1_202 dX9_fallIll_96 rfl hv292 ?_
            refine g_iconst (n := 100) X dX9_fallIll_99 rfl ?_
            refine g_isubA (n := 101) X dX9_fallIll_100 rfl (fun v293 rv293 xv293 => ?_)
            clear xv293
            refine g_mmax (n := 104) X kw_4_203 kw_3_153 kw_1_14 kw_3_154 (by omega) (by omega) (Nat.le_of_ble_eq_true rfl) (Nat.le_of_ble_eq_true rfl) (Nat.le_of_ble_eq_true rfl) (Nat.le_of_ble_eq_true rfl) dX9_fallIll_101 rfl (fun x294 hx294 => ?_)
            have rx294 : 0 ≤ x294 ∧ x294 ≤ 2147483647 := by omega
            refine gp_6_7 (n := 107) X (Po0 ro281) (Posz hsz ro281) (lay2_P ro281) kw_1_202 dX9_fallIll_104 rfl ?_
            refine G.nm (fun M295 e296 => ?_)
            have IM295 : gI sz M295 := gI.set IM4 (rP_7 ro281).1 (by omega) e296
            have CM295 : gC sz M295 := gC.set CM4 (rP_7 ro281).2.1 e296
            refine g_iinc (n := 110) (w := v3 + 1) (L' := [(2, gJ (v3 + 1)), (4, gJ 0), (3, gA n0 o281), (0, gA n0 1), (1, gJ v2)]) X 4 dX9_fallIll_107 rfl rfl (by decide) rfl rfl ?_
            refine g_goto (tgt := 15) X dX9_fallIll_110 (by decide) ?_
            refine G.sub (L' := [(0, gA n0 1), (1, gJ v2), (2, gJ (v3 + 1))]) [3, 4, 0] rfl ?_
            exact ih277 (v3 + 1) M295 (by omega) IM295 CM295 (gFr.s (gFr.c gFr.rf FM4 rfl) e296 (rP_7 ro281).2.2 rfl) (by omega)
          · refine g_iconst (n := 65) X dX9_fallIll_64 rfl ?_
            refine g_goto (tgt := 69) X dX9_fallIll_65 (by decide) ?_
            refine g_istore (n := 71) (L' := [(4, gJ 1), (3, gA n0 o281), (0, gA n0 1), (1, gJ v2), (2, gJ v3)]) X dX9_fallIll_69 (by decide) rfl rfl ?_
            refine g_aload_n (n := 72) X 1 dX9_fallIll_71 rfl rfl rfl ?_
            refine g_iload (n := 74) X 0 dX9_fallIll_72 rfl rfl ?_
            refine g_if_eq (n := 77) (tgt := 94) X dX9_fallIll_74 (by decide) (by omega) rfl (fun c297 => by exfalso; omega) (fun c297 => ?_)
            refine g_aload_n (n := 78) X 1 dX9_fallIll_77 rfl rfl rfl ?_
            obtain ⟨v298, hv298, rv298⟩ := gRd IM4 (Po0 ro281) (Posz hsz ro281) (rP_4 ro281).1
            refine gg_6_4 (n := 81) (z := v298) X (Po0 ro281) (Posz hsz ro281) (lay2_P ro281) kw_1_190 dX9_fallIll_78 rfl hv298 ?_
            refine g_iload_n (n := 82) X 3 dX9_fallIll_81 rfl rfl rfl ?_
            refine g_icmp_ge (n := 85) (tgt := 94) X dX9_fallIll_82 (by decide) (by omega) (by omega) rfl (fun c299 => ?_) (fun c299 => ?_)
            · refine g_iconst (n := 95) X dX9_fallIll_94 rfl ?_
              refine g_aload_n (n := 96) X 1 dX9_fallIll_95 rfl rfl rfl ?_
              obtain ⟨v300, hv300, rv300⟩ := gRd IM4 (Po0 ro281) (Posz hsz ro281) (rP_7 ro281).1
              refine gg_6_7 (n := 99) (z := v300) X (Po0 ro281) (Posz hsz ro281) (lay2_P ro281) kw_1_202 dX9_fallIll_96 rfl hv300 ?_
              refine g_iconst (n := 100) X dX9_fallIll_99 rfl ?_
              refine g_isubA (n := 101) X dX9_fallIll_100 rfl (fun v301 rv301 xv301 => ?_)
              clear xv301
              refine g_mmax (n := 104) X kw_4_203 kw_3_153 kw_1_14 kw_3_154 (by omega) (by omega) (Nat.le_of_ble_eq_true rfl) (Nat.le_of_ble_eq_true rfl) (Nat.le_of_ble_eq_true rfl) (Nat.le_of_ble_eq_true rfl) dX9_fallIll_101 rfl (fun x302 hx302 => ?_)
              have rx302 : 0 ≤ x302 ∧ x302 ≤ 2147483647 := by omega
              refine gp_6_7 (n := 107) X (Po0 ro281) (Posz hsz ro281) (lay2_P ro281) kw_1_202 dX9_fallIll_104 rfl ?_
              refine G.nm (fun M303 e304 => ?_)
              have IM303 : gI sz M303 := gI.set IM4 (rP_7 ro281).1 (by omega) e304
              have CM303 : gC sz M303 := gC.set CM4 (rP_7 ro281).2.1 e304
              refine g_iinc (n := 110) (w := v3 + 1) (L' := [(2, gJ (v3 + 1)), (4, gJ 1), (3, gA n0 o281), (0, gA n0 1), (1, gJ v2)]) X 4 dX9_fallIll_107 rfl rfl (by decide) rfl rfl ?_
              refine g_goto (tgt := 15) X dX9_fallIll_110 (by decide) ?_
              refine G.sub (L' := [(0, gA n0 1), (1, gJ v2), (2, gJ (v3 + 1))]) [3, 4, 0] rfl ?_
              exact ih277 (v3 + 1) M303 (by omega) IM303 CM303 (gFr.s (gFr.c gFr.rf FM4 rfl) e304 (rP_7 ro281).2.2 rfl) (by omega)
            · refine g_aload_n (n := 86) X 1 dX9_fallIll_85 rfl rfl rfl ?_
              obtain ⟨v305, hv305, rv305⟩ := gRd IM4 (Po0 ro281) (Posz hsz ro281) (rP_7 ro281).1
              refine gg_6_7 (n := 89) (z := v305) X (Po0 ro281) (Posz hsz ro281) (lay2_P ro281) kw_1_202 dX9_fallIll_86 rfl hv305 ?_
              refine g_iconst (n := 90) X dX9_fallIll_89 rfl ?_
              refine g_iaddA (n := 91) X dX9_fallIll_90 rfl (fun v306 rv306 xv306 => ?_)
              clear xv306
              refine g_goto (tgt := 104) X dX9_fallIll_91 (by decide) ?_
              refine gp_6_7 (n := 107) X (Po0 ro281) (Posz hsz ro281) (lay2_P ro281) kw_1_202 dX9_fallIll_104 rfl ?_
              refine G.nm (fun M307 e308 => ?_)
              have IM307 : gI sz M307 := gI.set IM4 (rP_7 ro281).1 (by omega) e308
              have CM307 : gC sz M307 := gC.set CM4 (rP_7 ro281).2.1 e308
              refine g_iinc (n := 110) (w := v3 + 1) (L' := [(2, gJ (v3 + 1)), (4, gJ 1), (3, gA n0 o281), (0, gA n0 1), (1, gJ v2)]) X 4 dX9_fallIll_107 rfl rfl (by decide) rfl rfl ?_
              refine g_goto (tgt := 15) X dX9_fallIll_110 (by decide) ?_
              refine G.sub (L' := [(0, gA n0 1), (1, gJ v2), (2, gJ (v3 + 1))]) [3, 4, 0] rfl ?_
              exact ih277 (v3 + 1) M307 (by omega) IM307 CM307 (gFr.s (gFr.c gFr.rf FM4 rfl) e308 (rP_7 ro281).2.2 rfl) (by omega)
  refine G.sub (L' := [(0, gA n0 1), (1, gJ v2), (2, gJ 0)]) [2, 1, 0] rfl ?_
  exact j5 _ 0 M (by omega) I C gFr.rf (Nat.lt_succ_self _)
theorem dX9_die_0 : decode cX9_die 0 = .ok (.iconst 0, 1) := dc_3 (by decide +kernel)
theorem dX9_die_1 : decode cX9_die 1 = .ok (.istore_n 1, 1) := dc_60 (by decide +kernel)
theorem dX9_die_2 : decode cX9_die 2 = .ok (.iload_n 1, 1) := dc_27 (by decide +kernel)
theorem dX9_die_3 : decode cX9_die 3 = .ok (.aload_n 0, 1) := dc_42 (by decide +kernel)
theorem dX9_die_4 : decode cX9_die 4 = .ok (.getfield 79, 3) := dc_180 0 79 (by decide +kernel)
theorem dX9_die_7 : decode cX9_die 7 = .ok (.if_icmp .ge 106, 3) := dc_162 0 106 106 (by decide +kernel)
theorem dX9_die_113 : decode cX9_die 113 = .ok (.return_, 1) := dc_177 (by decide +kernel)
theorem dX9_die_10 : decode cX9_die 10 = .ok (.aload_n 0, 1) := dc_42 (by decide +kernel)
theorem dX9_die_11 : decode cX9_die 11 = .ok (.getfield 20, 3) := dc_180 0 20 (by decide +kernel)
theorem dX9_die_14 : decode cX9_die 14 = .ok (.iload_n 1, 1) := dc_27 (by decide +kernel)
theorem dX9_die_15 : decode cX9_die 15 = .ok (.aaload, 1) := dc_50 (by decide +kernel)
theorem dX9_die_16 : decode cX9_die 16 = .ok (.astore_n 2, 1) := dc_77 (by decide +kernel)
theorem dX9_die_17 : decode cX9_die 17 = .ok (.aload_n 2, 1) := dc_44 (by decide +kernel)
theorem dX9_die_18 : decode cX9_die 18 = .ok (.getfield 168, 3) := dc_180 0 168 (by decide +kernel)
theorem dX9_die_21 : decode cX9_die 21 = .ok (.bipush 7, 2) := dc_16 7 7 (by decide +kernel)
theorem dX9_die_23 : decode cX9_die 23 = .ok (.if_icmp .eq 16, 3) := dc_159 0 16 16 (by decide +kernel)
theorem dX9_die_39 : decode cX9_die 39 = .ok (.iconst 0, 1) := dc_3 (by decide +kernel)
theorem dX9_die_40 : decode cX9_die 40 = .ok (.istore_n 3, 1) := dc_62 (by decide +kernel)
theorem dX9_die_41 : decode cX9_die 41 = .ok (.iload_n 3, 1) := dc_29 (by decide +kernel)
theorem dX9_die_42 : decode cX9_die 42 = .ok (.ifCond .eq 65, 3) := dc_153 0 65 65 (by decide +kernel)
theorem dX9_die_107 : decode cX9_die 107 = .ok (.iinc 1 1, 3) := dc_132 1 1 1 (by decide +kernel)
theorem dX9_die_110 : decode cX9_die 110 = .ok (.goto (-108), 3) := dc_167 255 148 (-108) (by decide +kernel)
theorem dX9_die_26 : decode cX9_die 26 = .ok (.aload_n 2, 1) := dc_44 (by decide +kernel)
theorem dX9_die_27 : decode cX9_die 27 = .ok (.getfield 168, 3) := dc_180 0 168 (by decide +kernel)
theorem dX9_die_30 : decode cX9_die 30 = .ok (.bipush 8, 2) := dc_16 8 8 (by decide +kernel)
theorem dX9_die_32 : decode cX9_die 32 = .ok (.if_icmp .eq 7, 3) := dc_159 0 7 7 (by decide +kernel)
theorem dX9_die_35 : decode cX9_die 35 = .ok (.iconst 1, 1) := dc_4 (by decide +kernel)
theorem dX9_die_36 : decode cX9_die 36 = .ok (.goto 4, 3) := dc_167 0 4 4 (by decide +kernel)
theorem dX9_die_45 : decode cX9_die 45 = .ok (.aload_n 2, 1) := dc_44 (by decide +kernel)
theorem dX9_die_46 : decode cX9_die 46 = .ok (.getfield 213, 3) := dc_180 0 213 (by decide +kernel)
theorem dX9_die_49 : decode cX9_die 49 = .ok (.bipush 20, 2) := dc_16 20 20 (by decide +kernel)
theorem dX9_die_51 : decode cX9_die 51 = .ok (.if_icmp .ge 11, 3) := dc_162 0 11 11 (by decide +kernel)
theorem dX9_die_62 : decode cX9_die 62 = .ok (.aload_n 0, 1) := dc_42 (by decide +kernel)
theorem dX9_die_63 : decode cX9_die 63 = .ok (.getfield 57, 3) := dc_180 0 57 (by decide +kernel)
theorem dX9_die_66 : decode cX9_die 66 = .ok (.aload_n 0, 1) := dc_42 (by decide +kernel)
theorem dX9_die_67 : decode cX9_die 67 = .ok (.getfield 110, 3) := dc_180 0 110 (by decide +kernel)
theorem dX9_die_70 : decode cX9_die 70 = .ok (.iconst 4, 1) := dc_7 (by decide +kernel)
theorem dX9_die_71 : decode cX9_die 71 = .ok (.iconst 1, 1) := dc_4 (by decide +kernel)
theorem dX9_die_72 : decode cX9_die 72 = .ok (.invokevirtual 243, 3) := dc_182 0 243 (by decide +kernel)
theorem dX9_die_75 : decode cX9_die 75 = .ok (.aload_n 0, 1) := dc_42 (by decide +kernel)
theorem dX9_die_76 : decode cX9_die 76 = .ok (.getfield 57, 3) := dc_180 0 57 (by decide +kernel)
theorem dX9_die_79 : decode cX9_die 79 = .ok (.aload_n 0, 1) := dc_42 (by decide +kernel)
theorem dX9_die_80 : decode cX9_die 80 = .ok (.getfield 110, 3) := dc_180 0 110 (by decide +kernel)
theorem dX9_die_83 : decode cX9_die 83 = .ok (.iconst 3, 1) := dc_6 (by decide +kernel)
theorem dX9_die_84 : decode cX9_die 84 = .ok (.aload_n 2, 1) := dc_44 (by decide +kernel)
theorem dX9_die_85 : decode cX9_die 85 = .ok (.getfield 168, 3) := dc_180 0 168 (by decide +kernel)
theorem dX9_die_88 : decode cX9_die 88 = .ok (.bipush 6, 2) := dc_16 6 6 (by decide +kernel)
theorem dX9_die_90 : decode cX9_die 90 = .ok (.if_icmp .ne 7, 3) := dc_160 0 7 7 (by decide +kernel)
theorem dX9_die_97 : decode cX9_die 97 = .ok (.iconst 0, 1) := dc_3 (by decide +kernel)
theorem dX9_die_98 : decode cX9_die 98 = .ok (.invokevirtual 243, 3) := dc_182 0 243 (by decide +kernel)
theorem dX9_die_101 : decode cX9_die 101 = .ok (.aload_n 2, 1) := dc_44 (by decide +kernel)
theorem dX9_die_102 : decode cX9_die 102 = .ok (.bipush 8, 2) := dc_16 8 8 (by decide +kernel)
theorem dX9_die_104 : decode cX9_die 104 = .ok (.invokevirtual 263, 3) := dc_182 1 7 (by decide +kernel)
theorem dX9_die_93 : decode cX9_die 93 = .ok (.iconst 1, 1) := dc_4 (by decide +kernel)
theorem dX9_die_94 : decode cX9_die 94 = .ok (.goto 4, 3) := dc_167 0 4 4 (by decide +kernel)
theorem dX9_die_54 : decode cX9_die 54 = .ok (.aload_n 2, 1) := dc_44 (by decide +kernel)
theorem dX9_die_55 : decode cX9_die 55 = .ok (.getfield 275, 3) := dc_180 1 19 (by decide +kernel)
theorem dX9_die_58 : decode cX9_die 58 = .ok (.iconst 5, 1) := dc_8 (by decide +kernel)
theorem dX9_die_59 : decode cX9_die 59 = .ok (.if_icmp .lt 48, 3) := dc_161 0 48 48 (by decide +kernel)
abbrev R_X9_die : Room := { frames := 1, cells := 0, slots := 0, locals := 23 }
set_option maxRecDepth 100000 in
set_option maxHeartbeats 4000000 in
theorem s_X9_die {l : Launch} {n0 : Nat} {D : va_G} {cA : Nat → ClassId} {M : gM}  {sz : Nat} (hsz : 206 ≤ sz) (I : gI sz M) (C : gC sz M) (q_1_15 : 0 ≤ M 1 15 ∧ M 1 15 ≤ 299)  : Met l yX9_die (gWsOf yX9_die cX9_die 4 (Option.none : Option Jvm.ClassFile.FieldType)) R_X9_die (gPc n0 D cA [gA n0 1] M sz) (gQv n0 D cA sz (fun M1 => gI sz M1 ∧ gC sz M1 ∧ gFr 65552 M M1)) 0 0 (fun q => n0 ≤ q) := by
  refine gMetV [gA n0 1] (by decide) (Nat.le_of_ble_eq_true rfl) ⟨rfl, rfl⟩ ?_
  intro p e s m args below meth cd Q X hq
  have X : gCx p s m args meth cd n0 D cA "ParishUnion$Union" cX9_die 4 := X
  show G p l e R_X9_die s m args below meth cd n0 D cA 4 Q 0 0 M sz 0 [(0, gA n0 1)] []
  obtain ⟨v1, hv1, rv1⟩ := gRd I (by decide) (gsz hsz (by decide)) rc_1_15.1
  refine g_iconst (n := 1) X dX9_die_0 rfl ?_
  refine g_istore_n (n := 2) (L' := [(1, gJ 0), (0, gA n0 1)]) X dX9_die_1 rfl (by decide) rfl rfl ?_
  have j4 : ∀ (N929 : Nat) (v2 : Int) (M3 : gM) , (0 ≤ v2 ∧ v2 ≤ 16) → gI sz M3 → gC sz M3 → gFr 65552 M M3 → (16 - v2).toNat < N929 → G p l e R_X9_die s m args below meth cd n0 D cA 4 Q 0 0 M3 sz 2 [(0, gA n0 1), (1, gJ v2)] [] := by
    intro N929; induction N929 with
    | zero => intro v2 M3 rv2 IM3 CM3 FM3 hm931; exfalso; omega
    | succ N929 ih930 =>
      intro v2 M3 rv2 IM3 CM3 FM3 hm931
      refine g_iload_n (n := 3) X 1 dX9_die_2 rfl rfl rfl ?_
      refine g_aload_n (n := 4) X 0 dX9_die_3 rfl rfl rfl ?_
      obtain ⟨v932, hv932, rv932⟩ := gRd IM3 (by decide) (gsz hsz (by decide)) rc_1_10.1
      refine gg_9_10 (n := 7) (z := v932) X (by decide) (gsz hsz (by decide)) lay_1 kw_2_126 dX9_die_4 rfl hv932 ?_
      refine g_icmp_ge (n := 10) (tgt := 113) X dX9_die_7 (by decide) (by omega) (by omega) rfl (fun c933 => ?_) (fun c933 => ?_)
      · exact hq _ _ _ dX9_die_113 ⟨IM3, CM3, (gFr.c gFr.rf FM3 rfl)⟩
      · refine g_aload_n (n := 11) X 0 dX9_die_10 rfl rfl rfl ?_
        refine gg_9_1 (n := 14) (z := 5) X (by decide) (gsz hsz (by decide)) lay_1 kw_2_106 dX9_die_11 rfl (rf_1_1 IM3 (gsz hsz (by decide))) (by decide) ?_
        refine g_iload_n (n := 15) X 1 dX9_die_14 rfl rfl rfl ?_
        obtain ⟨o934, ho934, ro934⟩ : ∃ o : Int, o = 31 + v2 ∧ (31 ≤ o ∧ o < 47) := ⟨_, rfl, by omega⟩
        refine g_aald6 (n := 16) (t := o934) X (by decide) (gsz hsz (by decide)) lay_5 (by omega) (by omega) (by decide) (gA5 IM3 hsz (by omega) (by omega) (by omega)) (by omega) dX9_die_15 rfl ?_
        refine g_astore_n (n := 17) (L' := [(2, gA n0 o934), (0, gA n0 1), (1, gJ v2)]) X dX9_die_16 rfl (by decide) rfl rfl ?_
        refine g_aload_n (n := 18) X 0 dX9_die_17 rfl rfl rfl ?_
        obtain ⟨v935, hv935, rv935⟩ := gRd IM3 (Po0 ro934) (Posz hsz ro934) (rP_5 ro934).1
        refine gg_6_5 (n := 21) (z := v935) X (Po0 ro934) (Posz hsz ro934) (lay2_P ro934) kw_1_195 dX9_die_18 rfl hv935 ?_
        refine g_bipush (n := 23) X dX9_die_21 (by decide +kernel) rfl ?_
        refine g_icmp_eq (n := 26) (tgt := 39) X dX9_die_23 (by decide) (by omega) (by omega) rfl (fun c936 => ?_) (fun c936 => ?_)
        · refine g_iconst (n := 40) X dX9_die_39 rfl ?_
          refine g_istore_n (n := 41) (L' := [(3, gJ 0), (2, gA n0 o934), (0, gA n0 1), (1, gJ v2)]) X dX9_die_40 rfl (by decide) rfl rfl ?_
          refine g_iload_n (n := 42) X 0 dX9_die_41 rfl rfl rfl ?_
          refine g_if_eq (n := 45) (tgt := 107) X dX9_die_42 (by decide) (by omega) rfl (fun c937 => ?_) (fun c937 => by exfalso; omega)
          refine g_iinc (n := 110) (w := v2 + 1) (L' := [(1, gJ (v2 + 1)), (3, gJ 0), (2, gA n0 o934), (0, gA n0 1)]) X 3 dX9_die_107 rfl rfl (by decide) rfl rfl ?_
          refine g_goto (tgt := 2) X dX9_die_110 (by decide) ?_
          refine G.sub (L' := [(0, gA n0 1), (1, gJ (v2 + 1))]) [3, 0] rfl ?_
          exact ih930 (v2 + 1) M3 (by omega) IM3 CM3 (gFr.c gFr.rf FM3 rfl) (by omega)
        · refine g_aload_n (n := 27) X 0 dX9_die_26 rfl rfl rfl ?_
          refine gg_6_5 (n := 30) (z := v935) X (Po0 ro934) (Posz hsz ro934) (lay2_P ro934) kw_1_195 dX9_die_27 rfl hv935 ?_
          refine g_bipush (n := 32) X dX9_die_30 (by decide +kernel) rfl ?_
          refine g_icmp_eq (n := 35) (tgt := 39) X dX9_die_32 (by decide) (by omega) (by omega) rfl (fun c938 => ?_) (fun c938 => ?_)
          · refine g_iconst (n := 40) X dX9_die_39 rfl ?_
            refine g_istore_n (n := 41) (L' := [(3, gJ 0), (2, gA n0 o934), (0, gA n0 1), (1, gJ v2)]) X dX9_die_40 rfl (by decide) rfl rfl ?_
            refine g_iload_n (n := 42) X 0 dX9_die_41 rfl rfl rfl ?_
            refine g_if_eq (n := 45) (tgt := 107) X dX9_die_42 (by decide) (by omega) rfl (fun c939 => ?_) (fun c939 => by exfalso; omega)
            refine g_iinc (n := 110) (w := v2 + 1) (L' := [(1, gJ (v2 + 1)), (3, gJ 0), (2, gA n0 o934), (0, gA n0 1)]) X 3 dX9_die_107 rfl rfl (by decide) rfl rfl ?_
            refine g_goto (tgt := 2) X dX9_die_110 (by decide) ?_
            refine G.sub (L' := [(0, gA n0 1), (1, gJ (v2 + 1))]) [3, 0] rfl ?_
            exact ih930 (v2 + 1) M3 (by omega) IM3 CM3 (gFr.c gFr.rf FM3 rfl) (by omega)
          · refine g_iconst (n := 36) X dX9_die_35 rfl ?_
            refine g_goto (tgt := 40) X dX9_die_36 (by decide) ?_
            refine g_istore_n (n := 41) (L' := [(3, gJ 1), (2, gA n0 o934), (0, gA n0 1), (1, gJ v2)]) X dX9_die_40 rfl (by decide) rfl rfl ?_
            refine g_iload_n (n := 42) X 0 dX9_die_41 rfl rfl rfl ?_
            refine g_if_eq (n := 45) (tgt := 107) X dX9_die_42 (by decide) (by omega) rfl (fun c940 => by exfalso; omega) (fun c940 => ?_)
            refine g_aload_n (n := 46) X 1 dX9_die_45 rfl rfl rfl ?_
            obtain ⟨v941, hv941, rv941⟩ := gRd IM3 (Po0 ro934) (Posz hsz ro934) (rP_6 ro934).1
            refine gg_6_6 (n := 49) (z := v941) X (Po0 ro934) (Posz hsz ro934) (lay2_P ro934) kw_1_199 dX9_die_46 rfl hv941 ?_
            refine g_bipush (n := 51) X dX9_die_49 (by decide +kernel) rfl ?_
            refine g_icmp_ge (n := 54) (tgt := 62) X dX9_die_51 (by decide) (by omega) (by omega) rfl (fun c942 => ?_) (fun c942 => ?_)
            · refine g_aload_n (n := 63) X 2 dX9_die_62 rfl rfl rfl ?_
              refine gg_9_7 (n := 66) (z := 23) X (by decide) (gsz hsz (by decide)) lay_1 kw_2_120 dX9_die_63 rfl (rf_1_7 IM3 (gsz hsz (by decide))) (by decide) ?_
              refine g_aload_n (n := 67) X 2 dX9_die_66 rfl rfl rfl ?_
              refine gg_9_15 (n := 70) (z := v1) X (by decide) (gsz hsz (by decide)) lay_1 kw_2_138 dX9_die_67 rfl ((gFr.at FM3 rc_1_15.2.2 rfl).trans hv1) ?_
              refine g_iconst (n := 71) X dX9_die_70 rfl ?_
              refine g_iconst (n := 72) X dX9_die_71 rfl ?_
              refine g_callVv (n := 75) (As := [gJ v1, gJ 4, gJ 1]) (rest := []) (cs1 := 0) (ss1 := 0) X (s_X5_add v1 (by omega) 4 (by omega) 1 (by omega) hsz IM3 CM3 ) okX5_add kw_4_205 ⟨kw_4_206, kw_4_207⟩ ⟨rfl, rfl⟩ ⟨Nat.le_of_ble_eq_true rfl, Nat.le_of_ble_eq_true rfl⟩ rfl (by decide) (gsz hsz (by decide)) lay_23 rfl rfl (Nat.le_of_ble_eq_true rfl) ⟨Nat.le_of_ble_eq_true rfl, Nat.le_of_ble_eq_true rfl⟩ rfl rfl dX9_die_72 rfl (fun M944 P945 => ?_)
              obtain ⟨IM944, CM944, FM944⟩ := P945
              refine g_aload_n (n := 76) X 2 dX9_die_75 rfl rfl rfl ?_
              refine gg_9_7 (n := 79) (z := 23) X (by decide) (gsz hsz (by decide)) lay_1 kw_2_120 dX9_die_76 rfl (rf_1_7 IM944 (gsz hsz (by decide))) (by decide) ?_
              refine g_aload_n (n := 80) X 2 dX9_die_79 rfl rfl rfl ?_
              refine gg_9_15 (n := 83) (z := v1) X (by decide) (gsz hsz (by decide)) lay_1 kw_2_138 dX9_die_80 rfl ((gFr.at FM944 rc_1_15.2.2 rfl).trans ((gFr.at FM3 rc_1_15.2.2 rfl).trans hv1)) ?_
              refine g_iconst (n := 84) X dX9_die_83 rfl ?_
              refine g_aload_n (n := 85) X 1 dX9_die_84 rfl rfl rfl ?_
              refine gg_6_5 (n := 88) (z := v935) X (Po0 ro934) (Posz hsz ro934) (lay2_P ro934) kw_1_195 dX9_die_85 rfl ((gFr.at FM944 (rP_5 ro934).2.2 rfl).trans hv935) ?_
              refine g_bipush (n := 90) X dX9_die_88 (by decide +kernel) rfl ?_
              refine g_icmp_ne (n := 93) (tgt := 97) X dX9_die_90 (by decide) (by omega) (by omega) rfl (fun c946 => ?_) (fun c946 => ?_)
              · refine g_iconst (n := 98) X dX9_die_97 rfl ?_
                refine g_callVv (n := 101) (As := [gJ v1, gJ 3, gJ 0]) (rest := []) (cs1 := 0) (ss1 := 0) X (s_X5_add v1 (by omega) 3 (by omega) 0 (by omega) hsz IM944 CM944 ) okX5_add kw_4_205 ⟨kw_4_206, kw_4_207⟩ ⟨rfl, rfl⟩ ⟨Nat.le_of_ble_eq_true rfl, Nat.le_of_ble_eq_true rfl⟩ rfl (by decide) (gsz hsz (by decide)) lay_23 rfl rfl (Nat.le_of_ble_eq_true rfl) ⟨Nat.le_of_ble_eq_true rfl, Nat.le_of_ble_eq_true rfl⟩ rfl rfl dX9_die_98 rfl (fun M948 P949 => ?_)
                obtain ⟨IM948, CM948, FM948⟩ := P949
                refine g_aload_n (n := 102) X 1 dX9_die_101 rfl rfl rfl ?_
                refine g_bipush (n := 104) X dX9_die_102 (by decide +kernel) rfl ?_
                refine g_callVv (n := 107) (As := [gJ 8]) (rest := []) (cs1 := 0) (ss1 := 0) X (s_X6_goTo o934 ro934 8 (by omega) hsz IM948 CM948 ) okX6_goTo kw_4_219 ⟨kw_3_65, kw_3_66⟩ ⟨rfl, rfl⟩ ⟨Nat.le_of_ble_eq_true rfl, Nat.le_of_ble_eq_true rfl⟩ rfl (Po0 ro934) (Posz hsz ro934) (lay2_P ro934) rfl rfl (Nat.le_of_ble_eq_true rfl) ⟨Nat.le_of_ble_eq_true rfl, Nat.le_of_ble_eq_true rfl⟩ rfl rfl dX9_die_104 rfl (fun M951 P952 => ?_)
                obtain ⟨M953, e954, M955, e956, M957, e958, M959, e960, rfl⟩ := P952
                have IM953 : gI sz M953 := gI.set IM948 (rP_5 ro934).1 (by omega) e954
                have CM953 : gC sz M953 := gC.at CM948 (by omega) (by omega) e954
                have IM955 : gI sz M955 := gI.set IM953 (rP_8 ro934).1 (by omega) e956
                have IM957 : gI sz M957 := gI.set IM955 (rP_9 ro934).1 (by omega) e958
                have IM959 : gI sz M959 := gI.set IM957 (rP_10 ro934).1 (by omega) e960
                refine g_iinc (n := 110) (w := v2 + 1) (L' := [(1, gJ (v2 + 1)), (3, gJ 1), (2, gA n0 o934), (0, gA n0 1)]) X 3 dX9_die_107 rfl rfl (by decide) rfl rfl ?_
                refine g_goto (tgt := 2) X dX9_die_110 (by decide) ?_
                refine G.sub (L' := [(0, gA n0 1), (1, gJ (v2 + 1))]) [3, 0] rfl ?_
                have CM959 : gC sz M959 := gC.pers CM953 ro934 (fun a b h => ((congrFun (congrFun e960 a) b).trans ((gset_ne (fun q => h q.1)).trans ((congrFun (congrFun e958 a) b).trans ((gset_ne (fun q => h q.1)).trans ((congrFun (congrFun e956 a) b).trans ((gset_ne (fun q => h q.1)).trans rfl))))))) (by have q5 : M959 o934 5 = 8 := ((congrFun (congrFun e960 _) _).trans ((gset_ne (by omega)).trans ((congrFun (congrFun e958 _) _).trans ((gset_ne (by omega)).trans ((congrFun (congrFun e956 _) _).trans ((gset_ne (by omega)).trans ((congrFun (congrFun e954 _) _).trans (gset_eq _ _ _ _)))))))); have q8 : M959 o934 8 = (-1) := ((congrFun (congrFun e960 _) _).trans ((gset_ne (by omega)).trans ((congrFun (congrFun e958 _) _).trans ((gset_ne (by omega)).trans ((congrFun (congrFun e956 _) _).trans (gset_eq _ _ _ _)))))); have q10 : M959 o934 10 = (-1) := ((congrFun (congrFun e960 _) _).trans (gset_eq _ _ _ _)); omega)
                exact ih930 (v2 + 1) M959 (by omega) IM959 CM959 (gFr.s (gFr.s (gFr.s (gFr.s (gFr.c (gFr.c (gFr.c gFr.rf FM3 rfl) FM944 rfl) FM948 rfl) e954 (rP_5 ro934).2.2 rfl) e956 (rP_8 ro934).2.2 rfl) e958 (rP_9 ro934).2.2 rfl) e960 (rP_10 ro934).2.2 rfl) (by omega)
              · refine g_iconst (n := 94) X dX9_die_93 rfl ?_
                refine g_goto (tgt := 98) X dX9_die_94 (by decide) ?_
                refine g_callVv (n := 101) (As := [gJ v1, gJ 3, gJ 1]) (rest := []) (cs1 := 0) (ss1 := 0) X (s_X5_add v1 (by omega) 3 (by omega) 1 (by omega) hsz IM944 CM944 ) okX5_add kw_4_205 ⟨kw_4_206, kw_4_207⟩ ⟨rfl, rfl⟩ ⟨Nat.le_of_ble_eq_true rfl, Nat.le_of_ble_eq_true rfl⟩ rfl (by decide) (gsz hsz (by decide)) lay_23 rfl rfl (Nat.le_of_ble_eq_true rfl) ⟨Nat.le_of_ble_eq_true rfl, Nat.le_of_ble_eq_true rfl⟩ rfl rfl dX9_die_98 rfl (fun M962 P963 => ?_)
                obtain ⟨IM962, CM962, FM962⟩ := P963
                refine g_aload_n (n := 102) X 1 dX9_die_101 rfl rfl rfl ?_
                refine g_bipush (n := 104) X dX9_die_102 (by decide +kernel) rfl ?_
                refine g_callVv (n := 107) (As := [gJ 8]) (rest := []) (cs1 := 0) (ss1 := 0) X (s_X6_goTo o934 ro934 8 (by omega) hsz IM962 CM962 ) okX6_goTo kw_4_219 ⟨kw_3_65, kw_3_66⟩ ⟨rfl, rfl⟩ ⟨Nat.le_of_ble_eq_true rfl, Nat.le_of_ble_eq_true rfl⟩ rfl (Po0 ro934) (Posz hsz ro934) (lay2_P ro934) rfl rfl (Nat.le_of_ble_eq_true rfl) ⟨Nat.le_of_ble_eq_true rfl, Nat.le_of_ble_eq_true rfl⟩ rfl rfl dX9_die_104 rfl (fun M965 P966 => ?_)
                obtain ⟨M967, e968, M969, e970, M971, e972, M973, e974, rfl⟩ := P966
                have IM967 : gI sz M967 := gI.set IM962 (rP_5 ro934).1 (by omega) e968
                have CM967 : gC sz M967 := gC.at CM962 (by omega) (by omega) e968
                have IM969 : gI sz M969 := gI.set IM967 (rP_8 ro934).1 (by omega) e970
                have IM971 : gI sz M971 := gI.set IM969 (rP_9 ro934).1 (by omega) e972
                have IM973 : gI sz M973 := gI.set IM971 (rP_10 ro934).1 (by omega) e974
                refine g_iinc (n := 110) (w := v2 + 1) (L' := [(1, gJ (v2 + 1)), (3, gJ 1), (2, gA n0 o934), (0, gA n0 1)]) X 3 dX9_die_107 rfl rfl (by decide) rfl rfl ?_
                refine g_goto (tgt := 2) X dX9_die_110 (by decide) ?_
                refine G.sub (L' := [(0, gA n0 1), (1, gJ (v2 + 1))]) [3, 0] rfl ?_
                have CM973 : gC sz M973 := gC.pers CM967 ro934 (fun a b h => ((congrFun (congrFun e974 a) b).trans ((gset_ne (fun q => h q.1)).trans ((congrFun (congrFun e972 a) b).trans ((gset_ne (fun q => h q.1)).trans ((congrFun (congrFun e970 a) b).trans ((gset_ne (fun q => h q.1)).trans rfl))))))) (by have q5 : M973 o934 5 = 8 := ((congrFun (congrFun e974 _) _).trans ((gset_ne (by omega)).trans ((congrFun (congrFun e972 _) _).trans ((gset_ne (by omega)).trans ((congrFun (congrFun e970 _) _).trans ((gset_ne (by omega)).trans ((congrFun (congrFun e968 _) _).trans (gset_eq _ _ _ _)))))))); have q8 : M973 o934 8 = (-1) := ((congrFun (congrFun e974 _) _).trans ((gset_ne (by omega)).trans ((congrFun (congrFun e972 _) _).trans ((gset_ne (by omega)).trans ((congrFun (congrFun e970 _) _).trans (gset_eq _ _ _ _)))))); have q10 : M973 o934 10 = (-1) := ((congrFun (congrFun e974 _) _).trans (gset_eq _ _ _ _)); omega)
                exact ih930 (v2 + 1) M973 (by omega) IM973 CM973 (gFr.s (gFr.s (gFr.s (gFr.s (gFr.c (gFr.c (gFr.c gFr.rf FM3 rfl) FM944 rfl) FM962 rfl) e968 (rP_5 ro934).2.2 rfl) e970 (rP_8 ro934).2.2 rfl) e972 (rP_9 ro934).2.2 rfl) e974 (rP_10 ro934).2.2 rfl) (by omega)
            · refine g_aload_n (n := 55) X 1 dX9_die_54 rfl rfl rfl ?_
              obtain ⟨v975, hv975, rv975⟩ := gRd IM3 (Po0 ro934) (Posz hsz ro934) (rP_7 ro934).1
              refine gg_6_7 (n := 58) (z := v975) X (Po0 ro934) (Posz hsz ro934) (lay2_P ro934) kw_1_202 dX9_die_55 rfl hv975 ?_
              refine g_iconst (n := 59) X dX9_die_58 rfl ?_
              refine g_icmp_lt (n := 62) (tgt := 107) X dX9_die_59 (by decide) (by omega) (by omega) rfl (fun c976 => ?_) (fun c976 => ?_)
              · refine g_iinc (n := 110) (w := v2 + 1) (L' := [(1, gJ (v2 + 1)), (3, gJ 1), (2, gA n0 o934), (0, gA n0 1)]) X 3 dX9_die_107 rfl rfl (by decide) rfl rfl ?_
                refine g_goto (tgt := 2) X dX9_die_110 (by decide) ?_
                refine G.sub (L' := [(0, gA n0 1), (1, gJ (v2 + 1))]) [3, 0] rfl ?_
                exact ih930 (v2 + 1) M3 (by omega) IM3 CM3 (gFr.c gFr.rf FM3 rfl) (by omega)
              · refine g_aload_n (n := 63) X 2 dX9_die_62 rfl rfl rfl ?_
                refine gg_9_7 (n := 66) (z := 23) X (by decide) (gsz hsz (by decide)) lay_1 kw_2_120 dX9_die_63 rfl (rf_1_7 IM3 (gsz hsz (by decide))) (by decide) ?_
                refine g_aload_n (n := 67) X 2 dX9_die_66 rfl rfl rfl ?_
                refine gg_9_15 (n := 70) (z := v1) X (by decide) (gsz hsz (by decide)) lay_1 kw_2_138 dX9_die_67 rfl ((gFr.at FM3 rc_1_15.2.2 rfl).trans hv1) ?_
                refine g_iconst (n := 71) X dX9_die_70 rfl ?_
                refine g_iconst (n := 72) X dX9_die_71 rfl ?_
                refine g_callVv (n := 75) (As := [gJ v1, gJ 4, gJ 1]) (rest := []) (cs1 := 0) (ss1 := 0) X (s_X5_add v1 (by omega) 4 (by omega) 1 (by omega) hsz IM3 CM3 ) okX5_add kw_4_205 ⟨kw_4_206, kw_4_207⟩ ⟨rfl, rfl⟩ ⟨Nat.le_of_ble_eq_true rfl, Nat.le_of_ble_eq_true rfl⟩ rfl (by decide) (gsz hsz (by decide)) lay_23 rfl rfl (Nat.le_of_ble_eq_true rfl) ⟨Nat.le_of_ble_eq_true rfl, Nat.le_of_ble_eq_true rfl⟩ rfl rfl dX9_die_72 rfl (fun M978 P979 => ?_)
                obtain ⟨IM978, CM978, FM978⟩ := P979
                refine g_aload_n (n := 76) X 2 dX9_die_75 rfl rfl rfl ?_
                refine gg_9_7 (n := 79) (z := 23) X (by decide) (gsz hsz (by decide)) lay_1 kw_2_120 dX9_die_76 rfl (rf_1_7 IM978 (gsz hsz (by decide))) (by decide) ?_
                refine g_aload_n (n := 80) X 2 dX9_die_79 rfl rfl rfl ?_
                refine gg_9_15 (n := 83) (z := v1) X (by decide) (gsz hsz (by decide)) lay_1 kw_2_138 dX9_die_80 rfl ((gFr.at FM978 rc_1_15.2.2 rfl).trans ((gFr.at FM3 rc_1_15.2.2 rfl).trans hv1)) ?_
                refine g_iconst (n := 84) X dX9_die_83 rfl ?_
                refine g_aload_n (n := 85) X 1 dX9_die_84 rfl rfl rfl ?_
                refine gg_6_5 (n := 88) (z := v935) X (Po0 ro934) (Posz hsz ro934) (lay2_P ro934) kw_1_195 dX9_die_85 rfl ((gFr.at FM978 (rP_5 ro934).2.2 rfl).trans hv935) ?_
                refine g_bipush (n := 90) X dX9_die_88 (by decide +kernel) rfl ?_
                refine g_icmp_ne (n := 93) (tgt := 97) X dX9_die_90 (by decide) (by omega) (by omega) rfl (fun c980 => ?_) (fun c980 => ?_)
                · refine g_iconst (n := 98) X dX9_die_97 rfl ?_
                  refine g_callVv (n := 101) (As := [gJ v1, gJ 3, gJ 0]) (rest := []) (cs1 := 0) (ss1 := 0) X (s_X5_add v1 (by omega) 3 (by omega) 0 (by omega) hsz IM978 CM978 ) okX5_add kw_4_205 ⟨kw_4_206, kw_4_207⟩ ⟨rfl, rfl⟩ ⟨Nat.le_of_ble_eq_true rfl, Nat.le_of_ble_eq_true rfl⟩ rfl (by decide) (gsz hsz (by decide)) lay_23 rfl rfl (Nat.le_of_ble_eq_true rfl) ⟨Nat.le_of_ble_eq_true rfl, Nat.le_of_ble_eq_true rfl⟩ rfl rfl dX9_die_98 rfl (fun M982 P983 => ?_)
                  obtain ⟨IM982, CM982, FM982⟩ := P983
                  refine g_aload_n (n := 102) X 1 dX9_die_101 rfl rfl rfl ?_
                  refine g_bipush (n := 104) X dX9_die_102 (by decide +kernel) rfl ?_
                  refine g_callVv (n := 107) (As := [gJ 8]) (rest := []) (cs1 := 0) (ss1 := 0) X (s_X6_goTo o934 ro934 8 (by omega) hsz IM982 CM982 ) okX6_goTo kw_4_219 ⟨kw_3_65, kw_3_66⟩ ⟨rfl, rfl⟩ ⟨Nat.le_of_ble_eq_true rfl, Nat.le_of_ble_eq_true rfl⟩ rfl (Po0 ro934) (Posz hsz ro934) (lay2_P ro934) rfl rfl (Nat.le_of_ble_eq_true rfl) ⟨Nat.le_of_ble_eq_true rfl, Nat.le_of_ble_eq_true rfl⟩ rfl rfl dX9_die_104 rfl (fun M985 P986 => ?_)
                  obtain ⟨M987, e988, M989, e990, M991, e992, M993, e994, rfl⟩ := P986
                  have IM987 : gI sz M987 := gI.set IM982 (rP_5 ro934).1 (by omega) e988
                  have CM987 : gC sz M987 := gC.at CM982 (by omega) (by omega) e988
                  have IM989 : gI sz M989 := gI.set IM987 (rP_8 ro934).1 (by omega) e990
                  have IM991 : gI sz M991 := gI.set IM989 (rP_9 ro934).1 (by omega) e992
                  have IM993 : gI sz M993 := gI.set IM991 (rP_10 ro934).1 (by omega) e994
                  refine g_iinc (n := 110) (w := v2 + 1) (L' := [(1, gJ (v2 + 1)), (3, gJ 1), (2, gA n0 o934), (0, gA n0 1)]) X 3 dX9_die_107 rfl rfl (by decide) rfl rfl ?_
                  refine g_goto (tgt := 2) X dX9_die_110 (by decide) ?_
                  refine G.sub (L' := [(0, gA n0 1), (1, gJ (v2 + 1))]) [3, 0] rfl ?_
                  have CM993 : gC sz M993 := gC.pers CM987 ro934 (fun a b h => ((congrFun (congrFun e994 a) b).trans ((gset_ne (fun q => h q.1)).trans ((congrFun (congrFun e992 a) b).trans ((gset_ne (fun q => h q.1)).trans ((congrFun (congrFun e990 a) b).trans ((gset_ne (fun q => h q.1)).trans rfl))))))) (by have q5 : M993 o934 5 = 8 := ((congrFun (congrFun e994 _) _).trans ((gset_ne (by omega)).trans ((congrFun (congrFun e992 _) _).trans ((gset_ne (by omega)).trans ((congrFun (congrFun e990 _) _).trans ((gset_ne (by omega)).trans ((congrFun (congrFun e988 _) _).trans (gset_eq _ _ _ _)))))))); have q8 : M993 o934 8 = (-1) := ((congrFun (congrFun e994 _) _).trans ((gset_ne (by omega)).trans ((congrFun (congrFun e992 _) _).trans ((gset_ne (by omega)).trans ((congrFun (congrFun e990 _) _).trans (gset_eq _ _ _ _)))))); have q10 : M993 o934 10 = (-1) := ((congrFun (congrFun e994 _) _).trans (gset_eq _ _ _ _)); omega)
                  exact ih930 (v2 + 1) M993 (by omega) IM993 CM993 (gFr.s (gFr.s (gFr.s (gFr.s (gFr.c (gFr.c (gFr.c gFr.rf FM3 rfl) FM978 rfl) FM982 rfl) e988 (rP_5 ro934).2.2 rfl) e990 (rP_8 ro934).2.2 rfl) e992 (rP_9 ro934).2.2 rfl) e994 (rP_10 ro934).2.2 rfl) (by omega)
                · refine g_iconst (n := 94) X dX9_die_93 rfl ?_
                  refine g_goto (tgt := 98) X dX9_die_94 (by decide) ?_
                  refine g_callVv (n := 101) (As := [gJ v1, gJ 3, gJ 1]) (rest := []) (cs1 := 0) (ss1 := 0) X (s_X5_add v1 (by omega) 3 (by omega) 1 (by omega) hsz IM978 CM978 ) okX5_add kw_4_205 ⟨kw_4_206, kw_4_207⟩ ⟨rfl, rfl⟩ ⟨Nat.le_of_ble_eq_true rfl, Nat.le_of_ble_eq_true rfl⟩ rfl (by decide) (gsz hsz (by decide)) lay_23 rfl rfl (Nat.le_of_ble_eq_true rfl) ⟨Nat.le_of_ble_eq_true rfl, Nat.le_of_ble_eq_true rfl⟩ rfl rfl dX9_die_98 rfl (fun M996 P997 => ?_)
                  obtain ⟨IM996, CM996, FM996⟩ := P997
                  refine g_aload_n (n := 102) X 1 dX9_die_101 rfl rfl rfl ?_
                  refine g_bipush (n := 104) X dX9_die_102 (by decide +kernel) rfl ?_
                  refine g_callVv (n := 107) (As := [gJ 8]) (rest := []) (cs1 := 0) (ss1 := 0) X (s_X6_goTo o934 ro934 8 (by omega) hsz IM996 CM996 ) okX6_goTo kw_4_219 ⟨kw_3_65, kw_3_66⟩ ⟨rfl, rfl⟩ ⟨Nat.le_of_ble_eq_true rfl, Nat.le_of_ble_eq_true rfl⟩ rfl (Po0 ro934) (Posz hsz ro934) (lay2_P ro934) rfl rfl (Nat.le_of_ble_eq_true rfl) ⟨Nat.le_of_ble_eq_true rfl, Nat.le_of_ble_eq_true rfl⟩ rfl rfl dX9_die_104 rfl (fun M999 P1000 => ?_)
                  obtain ⟨M1001, e1002, M1003, e1004, M1005, e1006, M1007, e1008, rfl⟩ := P1000
                  have IM1001 : gI sz M1001 := gI.set IM996 (rP_5 ro934).1 (by omega) e1002
                  have CM1001 : gC sz M1001 := gC.at CM996 (by omega) (by omega) e1002
                  have IM1003 : gI sz M1003 := gI.set IM1001 (rP_8 ro934).1 (by omega) e1004
                  have IM1005 : gI sz M1005 := gI.set IM1003 (rP_9 ro934).1 (by omega) e1006
                  have IM1007 : gI sz M1007 := gI.set IM1005 (rP_10 ro934).1 (by omega) e1008
                  refine g_iinc (n := 110) (w := v2 + 1) (L' := [(1, gJ (v2 + 1)), (3, gJ 1), (2, gA n0 o934), (0, gA n0 1)]) X 3 dX9_die_107 rfl rfl (by decide) rfl rfl ?_
                  refine g_goto (tgt := 2) X dX9_die_110 (by decide) ?_
                  refine G.sub (L' := [(0, gA n0 1), (1, gJ (v2 + 1))]) [3, 0] rfl ?_
                  have CM1007 : gC sz M1007 := gC.pers CM1001 ro934 (fun a b h => ((congrFun (congrFun e1008 a) b).trans ((gset_ne (fun q => h q.1)).trans ((congrFun (congrFun e1006 a) b).trans ((gset_ne (fun q => h q.1)).trans ((congrFun (congrFun e1004 a) b).trans ((gset_ne (fun q => h q.1)).trans rfl))))))) (by have q5 : M1007 o934 5 = 8 := ((congrFun (congrFun e1008 _) _).trans ((gset_ne (by omega)).trans ((congrFun (congrFun e1006 _) _).trans ((gset_ne (by omega)).trans ((congrFun (congrFun e1004 _) _).trans ((gset_ne (by omega)).trans ((congrFun (congrFun e1002 _) _).trans (gset_eq _ _ _ _)))))))); have q8 : M1007 o934 8 = (-1) := ((congrFun (congrFun e1008 _) _).trans ((gset_ne (by omega)).trans ((congrFun (congrFun e1006 _) _).trans ((gset_ne (by omega)).trans ((congrFun (congrFun e1004 _) _).trans (gset_eq _ _ _ _)))))); have q10 : M1007 o934 10 = (-1) := ((congrFun (congrFun e1008 _) _).trans (gset_eq _ _ _ _)); omega)
                  exact ih930 (v2 + 1) M1007 (by omega) IM1007 CM1007 (gFr.s (gFr.s (gFr.s (gFr.s (gFr.c (gFr.c (gFr.c gFr.rf FM3 rfl) FM978 rfl) FM996 rfl) e1002 (rP_5 ro934).2.2 rfl) e1004 (rP_8 ro934).2.2 rfl) e1006 (rP_9 ro934).2.2 rfl) e1008 (rP_10 ro934).2.2 rfl) (by omega)
  refine G.sub (L' := [(0, gA n0 1), (1, gJ 0)]) [1, 0] rfl ?_
  exact j4 _ 0 M (by omega) I C gFr.rf (Nat.lt_succ_self _)
theorem dX9_leaveHouse_0 : decode cX9_leaveHouse 0 = .ok (.aload_n 0, 1) := dc_42 (by decide +kernel)
theorem dX9_leaveHouse_1 : decode cX9_leaveHouse 1 = .ok (.getfield 50, 3) := dc_180 0 50 (by decide +kernel)
theorem dX9_leaveHouse_4 : decode cX9_leaveHouse 4 = .ok (.getfield 158, 3) := dc_180 0 158 (by decide +kernel)
theorem dX9_leaveHouse_7 : decode cX9_leaveHouse 7 = .ok (.aload_n 0, 1) := dc_42 (by decide +kernel)
theorem dX9_leaveHouse_8 : decode cX9_leaveHouse 8 = .ok (.getfield 110, 3) := dc_180 0 110 (by decide +kernel)
theorem dX9_leaveHouse_11 : decode cX9_leaveHouse 11 = .ok (.iaload, 1) := dc_46 (by decide +kernel)
theorem dX9_leaveHouse_12 : decode cX9_leaveHouse 12 = .ok (.iconst 4, 1) := dc_7 (by decide +kernel)
theorem dX9_leaveHouse_13 : decode cX9_leaveHouse 13 = .ok (.if_icmp .lt 4, 3) := dc_161 0 4 4 (by decide +kernel)
theorem dX9_leaveHouse_17 : decode cX9_leaveHouse 17 = .ok (.iconst 0, 1) := dc_3 (by decide +kernel)
theorem dX9_leaveHouse_18 : decode cX9_leaveHouse 18 = .ok (.istore_n 1, 1) := dc_60 (by decide +kernel)
theorem dX9_leaveHouse_19 : decode cX9_leaveHouse 19 = .ok (.iload_n 1, 1) := dc_27 (by decide +kernel)
theorem dX9_leaveHouse_20 : decode cX9_leaveHouse 20 = .ok (.aload_n 0, 1) := dc_42 (by decide +kernel)
theorem dX9_leaveHouse_21 : decode cX9_leaveHouse 21 = .ok (.getfield 79, 3) := dc_180 0 79 (by decide +kernel)
theorem dX9_leaveHouse_24 : decode cX9_leaveHouse 24 = .ok (.if_icmp .ge 48, 3) := dc_162 0 48 48 (by decide +kernel)
theorem dX9_leaveHouse_72 : decode cX9_leaveHouse 72 = .ok (.return_, 1) := dc_177 (by decide +kernel)
theorem dX9_leaveHouse_27 : decode cX9_leaveHouse 27 = .ok (.aload_n 0, 1) := dc_42 (by decide +kernel)
theorem dX9_leaveHouse_28 : decode cX9_leaveHouse 28 = .ok (.getfield 20, 3) := dc_180 0 20 (by decide +kernel)
theorem dX9_leaveHouse_31 : decode cX9_leaveHouse 31 = .ok (.iload_n 1, 1) := dc_27 (by decide +kernel)
theorem dX9_leaveHouse_32 : decode cX9_leaveHouse 32 = .ok (.aaload, 1) := dc_50 (by decide +kernel)
theorem dX9_leaveHouse_33 : decode cX9_leaveHouse 33 = .ok (.astore_n 2, 1) := dc_77 (by decide +kernel)
theorem dX9_leaveHouse_34 : decode cX9_leaveHouse 34 = .ok (.aload_n 2, 1) := dc_44 (by decide +kernel)
theorem dX9_leaveHouse_35 : decode cX9_leaveHouse 35 = .ok (.getfield 168, 3) := dc_180 0 168 (by decide +kernel)
theorem dX9_leaveHouse_38 : decode cX9_leaveHouse 38 = .ok (.bipush 6, 2) := dc_16 6 6 (by decide +kernel)
theorem dX9_leaveHouse_40 : decode cX9_leaveHouse 40 = .ok (.if_icmp .ne 26, 3) := dc_160 0 26 26 (by decide +kernel)
theorem dX9_leaveHouse_66 : decode cX9_leaveHouse 66 = .ok (.iinc 1 1, 3) := dc_132 1 1 1 (by decide +kernel)
theorem dX9_leaveHouse_69 : decode cX9_leaveHouse 69 = .ok (.goto (-50), 3) := dc_167 255 206 (-50) (by decide +kernel)
theorem dX9_leaveHouse_43 : decode cX9_leaveHouse 43 = .ok (.aload_n 2, 1) := dc_44 (by decide +kernel)
theorem dX9_leaveHouse_44 : decode cX9_leaveHouse 44 = .ok (.getfield 213, 3) := dc_180 0 213 (by decide +kernel)
theorem dX9_leaveHouse_47 : decode cX9_leaveHouse 47 = .ok (.ifCond .ne 19, 3) := dc_154 0 19 19 (by decide +kernel)
theorem dX9_leaveHouse_50 : decode cX9_leaveHouse 50 = .ok (.aload_n 2, 1) := dc_44 (by decide +kernel)
theorem dX9_leaveHouse_51 : decode cX9_leaveHouse 51 = .ok (.getfield 230, 3) := dc_180 0 230 (by decide +kernel)
theorem dX9_leaveHouse_54 : decode cX9_leaveHouse 54 = .ok (.iconst 5, 1) := dc_8 (by decide +kernel)
theorem dX9_leaveHouse_55 : decode cX9_leaveHouse 55 = .ok (.if_icmp .lt 11, 3) := dc_161 0 11 11 (by decide +kernel)
theorem dX9_leaveHouse_58 : decode cX9_leaveHouse 58 = .ok (.aload_n 2, 1) := dc_44 (by decide +kernel)
theorem dX9_leaveHouse_59 : decode cX9_leaveHouse 59 = .ok (.aload_n 2, 1) := dc_44 (by decide +kernel)
theorem dX9_leaveHouse_60 : decode cX9_leaveHouse 60 = .ok (.getfield 266, 3) := dc_180 1 10 (by decide +kernel)
theorem dX9_leaveHouse_63 : decode cX9_leaveHouse 63 = .ok (.invokevirtual 263, 3) := dc_182 1 7 (by decide +kernel)
theorem dX9_leaveHouse_16 : decode cX9_leaveHouse 16 = .ok (.return_, 1) := dc_177 (by decide +kernel)
abbrev R_X9_leaveHouse : Room := { frames := 1, cells := 0, slots := 0, locals := 21 }
set_option maxRecDepth 100000 in
set_option maxHeartbeats 4000000 in
theorem s_X9_leaveHouse {l : Launch} {n0 : Nat} {D : va_G} {cA : Nat → ClassId} {M : gM}  {sz : Nat} (hsz : 206 ≤ sz) (I : gI sz M) (C : gC sz M) (q_1_15 : 0 ≤ M 1 15 ∧ M 1 15 ≤ 299)  : Met l yX9_leaveHouse (gWsOf yX9_leaveHouse cX9_leaveHouse 3 (Option.none : Option Jvm.ClassFile.FieldType)) R_X9_leaveHouse (gPc n0 D cA [gA n0 1] M sz) (gQv n0 D cA sz (fun M1 => gI sz M1 ∧ gC sz M1 ∧ gFr 16 M M1)) 0 0 (fun q => n0 ≤ q) := by
  refine gMetV [gA n0 1] (by decide) (Nat.le_of_ble_eq_true rfl) ⟨rfl, rfl⟩ ?_
  intro p e s m args below meth cd Q X hq
  have X : gCx p s m args meth cd n0 D cA "ParishUnion$Union" cX9_leaveHouse 3 := X
  show G p l e R_X9_leaveHouse s m args below meth cd n0 D cA 3 Q 0 0 M sz 0 [(0, gA n0 1)] []
  obtain ⟨v1, hv1, rv1⟩ := gRd I (by decide) (gsz hsz (by decide)) rc_1_15.1
  refine g_aload_n (n := 1) X 0 dX9_leaveHouse_0 rfl rfl rfl ?_
  refine gg_9_6 (n := 4) (z := 15) X (by decide) (gsz hsz (by decide)) lay_1 kw_2_118 dX9_leaveHouse_1 rfl (rf_1_6 I (gsz hsz (by decide))) (by decide) ?_
  refine gg_2_1 (n := 7) (z := 17) X (by decide) (gsz hsz (by decide)) lay_15 kw_1_99 dX9_leaveHouse_4 rfl (rf_15_1 I (gsz hsz (by decide))) (by decide) ?_
  refine g_aload_n (n := 8) X 0 dX9_leaveHouse_7 rfl rfl rfl ?_
  refine gg_9_15 (n := 11) (z := v1) X (by decide) (gsz hsz (by decide)) lay_1 kw_2_138 dX9_leaveHouse_8 rfl hv1 ?_
  obtain ⟨v2, hv2, rv2⟩ := gRd I (by decide) (gsz hsz (by decide)) (ra_17 v1).1
  refine g_iald2 (n := 12) (v := v2) X (by decide) (gsz hsz (by decide)) lay_17 (by omega) (by omega) (by decide) dX9_leaveHouse_11 rfl hv2 ?_
  refine g_iconst (n := 13) X dX9_leaveHouse_12 rfl ?_
  refine g_icmp_lt (n := 16) (tgt := 17) X dX9_leaveHouse_13 (by decide) (by omega) (by omega) rfl (fun c3 => ?_) (fun c3 => ?_)
  · refine g_iconst (n := 18) X dX9_leaveHouse_17 rfl ?_
    refine g_istore_n (n := 19) (L' := [(1, gJ 0), (0, gA n0 1)]) X dX9_leaveHouse_18 rfl (by decide) rfl rfl ?_
    have j6 : ∀ (N217 : Nat) (v4 : Int) (M5 : gM) , (0 ≤ v4 ∧ v4 ≤ 16) → gI sz M5 → gC sz M5 → gFr 16 M M5 → (16 - v4).toNat < N217 → G p l e R_X9_leaveHouse s m args below meth cd n0 D cA 3 Q 0 0 M5 sz 19 [(0, gA n0 1), (1, gJ v4)] [] := by
      intro N217; induction N217 with
      | zero => intro v4 M5 rv4 IM5 CM5 FM5 hm219; exfalso; omega
      | succ N217 ih218 =>
        intro v4 M5 rv4 IM5 CM5 FM5 hm219
        refine g_iload_n (n := 20) X 1 dX9_leaveHouse_19 rfl rfl rfl ?_
        refine g_aload_n (n := 21) X 0 dX9_leaveHouse_20 rfl rfl rfl ?_
        obtain ⟨v220, hv220, rv220⟩ := gRd IM5 (by decide) (gsz hsz (by decide)) rc_1_10.1
        refine gg_9_10 (n := 24) (z := v220) X (by decide) (gsz hsz (by decide)) lay_1 kw_2_126 dX9_leaveHouse_21 rfl hv220 ?_
        refine g_icmp_ge (n := 27) (tgt := 72) X dX9_leaveHouse_24 (by decide) (by omega) (by omega) rfl (fun c221 => ?_) (fun c221 => ?_)
        · exact hq _ _ _ dX9_leaveHouse_72 ⟨IM5, CM5, (gFr.c gFr.rf FM5 rfl)⟩
        · refine g_aload_n (n := 28) X 0 dX9_leaveHouse_27 rfl rfl rfl ?_
          refine gg_9_1 (n := 31) (z := 5) X (by decide) (gsz hsz (by decide)) lay_1 kw_2_106 dX9_leaveHouse_28 rfl (rf_1_1 IM5 (gsz hsz (by decide))) (by decide) ?_
          refine g_iload_n (n := 32) X 1 dX9_leaveHouse_31 rfl rfl rfl ?_
          obtain ⟨o222, ho222, ro222⟩ : ∃ o : Int, o = 31 + v4 ∧ (31 ≤ o ∧ o < 47) := ⟨_, rfl, by omega⟩
          refine g_aald6 (n := 33) (t := o222) X (by decide) (gsz hsz (by decide)) lay_5 (by omega) (by omega) (by decide) (gA5 IM5 hsz (by omega) (by omega) (by omega)) (by omega) dX9_leaveHouse_32 rfl ?_
          refine g_astore_n (n := 34) (L' := [(2, gA n0 o222), (0, gA n0 1), (1, gJ v4)]) X dX9_leaveHouse_33 rfl (by decide) rfl rfl ?_
          refine g_aload_n (n := 35) X 0 dX9_leaveHouse_34 rfl rfl rfl ?_
          obtain ⟨v223, hv223, rv223⟩ := gRd IM5 (Po0 ro222) (Posz hsz ro222) (rP_5 ro222).1
          refine gg_6_5 (n := 38) (z := v223) X (Po0 ro222) (Posz hsz ro222) (lay2_P ro222) kw_1_195 dX9_leaveHouse_35 rfl hv223 ?_
          refine g_bipush (n := 40) X dX9_leaveHouse_38 (by decide +kernel) rfl ?_
          refine g_icmp_ne (n := 43) (tgt := 66) X dX9_leaveHouse_40 (by decide) (by omega) (by omega) rfl (fun c224 => ?_) (fun c224 => ?_)
          · refine g_iinc (n := 69) (w := v4 + 1) (L' := [(1, gJ (v4 + 1)), (2, gA n0 o222), (0, gA n0 1)]) X 2 dX9_leaveHouse_66 rfl rfl (by decide) rfl rfl ?_
            refine g_goto (tgt := 19) X dX9_leaveHouse_69 (by decide) ?_
            refine G.sub (L' := [(0, gA n0 1), (1, gJ (v4 + 1))]) [2, 0] rfl ?_
            exact ih218 (v4 + 1) M5 (by omega) IM5 CM5 (gFr.c gFr.rf FM5 rfl) (by omega)
          · refine g_aload_n (n := 44) X 0 dX9_leaveHouse_43 rfl rfl rfl ?_
            obtain ⟨v225, hv225, rv225⟩ := gRd IM5 (Po0 ro222) (Posz hsz ro222) (rP_6 ro222).1
            refine gg_6_6 (n := 47) (z := v225) X (Po0 ro222) (Posz hsz ro222) (lay2_P ro222) kw_1_199 dX9_leaveHouse_44 rfl hv225 ?_
            refine g_if_ne (n := 50) (tgt := 66) X dX9_leaveHouse_47 (by decide) (by omega) rfl (fun c226 => ?_) (fun c226 => ?_)
            · refine g_iinc (n := 69) (w := v4 + 1) (L' := [(1, gJ (v4 + 1)), (2, gA n0 o222), (0, gA n0 1)]) X 2 dX9_leaveHouse_66 rfl rfl (by decide) rfl rfl ?_
              refine g_goto (tgt := 19) X dX9_leaveHouse_69 (by decide) ?_
              refine G.sub (L' := [(0, gA n0 1), (1, gJ (v4 + 1))]) [2, 0] rfl ?_
              exact ih218 (v4 + 1) M5 (by omega) IM5 CM5 (gFr.c gFr.rf FM5 rfl) (by omega)
            · refine g_aload_n (n := 51) X 0 dX9_leaveHouse_50 rfl rfl rfl ?_
              obtain ⟨v227, hv227, rv227⟩ := gRd IM5 (Po0 ro222) (Posz hsz ro222) (rP_4 ro222).1
              refine gg_6_4 (n := 54) (z := v227) X (Po0 ro222) (Posz hsz ro222) (lay2_P ro222) kw_1_190 dX9_leaveHouse_51 rfl hv227 ?_
              refine g_iconst (n := 55) X dX9_leaveHouse_54 rfl ?_
              refine g_icmp_lt (n := 58) (tgt := 66) X dX9_leaveHouse_55 (by decide) (by omega) (by omega) rfl (fun c228 => ?_) (fun c228 => ?_)
              · refine g_iinc (n := 69) (w := v4 + 1) (L' := [(1, gJ (v4 + 1)), (2, gA n0 o222), (0, gA n0 1)]) X 2 dX9_leaveHouse_66 rfl rfl (by decide) rfl rfl ?_
                refine g_goto (tgt := 19) X dX9_leaveHouse_69 (by decide) ?_
                refine G.sub (L' := [(0, gA n0 1), (1, gJ (v4 + 1))]) [2, 0] rfl ?_
                exact ih218 (v4 + 1) M5 (by omega) IM5 CM5 (gFr.c gFr.rf FM5 rfl) (by omega)
              · refine g_aload_n (n := 59) X 0 dX9_leaveHouse_58 rfl rfl rfl ?_
                refine g_aload_n (n := 60) X 0 dX9_leaveHouse_59 rfl rfl rfl ?_
                obtain ⟨v229, hv229, rv229⟩ := gRd IM5 (Po0 ro222) (Posz hsz ro222) (rP_10 ro222).1
                have wv229 := CM5.2.1 o222 (Or.inl ro222) (hv223.trans (by omega))
                refine gg_6_10 (n := 63) (z := v229) X (Po0 ro222) (Posz hsz ro222) (lay2_P ro222) kw_1_211 dX9_leaveHouse_60 rfl hv229 ?_
                refine g_callVv (n := 66) (As := [gJ v229]) (rest := []) (cs1 := 0) (ss1 := 0) X (s_X6_goTo o222 ro222 v229 (by omega) hsz IM5 CM5 ) okX6_goTo kw_4_219 ⟨kw_3_65, kw_3_66⟩ ⟨rfl, rfl⟩ ⟨Nat.le_of_ble_eq_true rfl, Nat.le_of_ble_eq_true rfl⟩ rfl (Po0 ro222) (Posz hsz ro222) (lay2_P ro222) rfl rfl (Nat.le_of_ble_eq_true rfl) ⟨Nat.le_of_ble_eq_true rfl, Nat.le_of_ble_eq_true rfl⟩ rfl rfl dX9_leaveHouse_63 rfl (fun M231 P232 => ?_)
                obtain ⟨M233, e234, M235, e236, M237, e238, M239, e240, rfl⟩ := P232
                have IM233 : gI sz M233 := gI.set IM5 (rP_5 ro222).1 (by omega) e234
                have CM233 : gC sz M233 := gC.at CM5 (by omega) (by omega) e234
                have IM235 : gI sz M235 := gI.set IM233 (rP_8 ro222).1 (by omega) e236
                have IM237 : gI sz M237 := gI.set IM235 (rP_9 ro222).1 (by omega) e238
                have IM239 : gI sz M239 := gI.set IM237 (rP_10 ro222).1 (by omega) e240
                refine g_iinc (n := 69) (w := v4 + 1) (L' := [(1, gJ (v4 + 1)), (2, gA n0 o222), (0, gA n0 1)]) X 2 dX9_leaveHouse_66 rfl rfl (by decide) rfl rfl ?_
                refine g_goto (tgt := 19) X dX9_leaveHouse_69 (by decide) ?_
                refine G.sub (L' := [(0, gA n0 1), (1, gJ (v4 + 1))]) [2, 0] rfl ?_
                have CM239 : gC sz M239 := gC.pers CM233 ro222 (fun a b h => ((congrFun (congrFun e240 a) b).trans ((gset_ne (fun q => h q.1)).trans ((congrFun (congrFun e238 a) b).trans ((gset_ne (fun q => h q.1)).trans ((congrFun (congrFun e236 a) b).trans ((gset_ne (fun q => h q.1)).trans rfl))))))) (by have q5 : M239 o222 5 = v229 := ((congrFun (congrFun e240 _) _).trans ((gset_ne (by omega)).trans ((congrFun (congrFun e238 _) _).trans ((gset_ne (by omega)).trans ((congrFun (congrFun e236 _) _).trans ((gset_ne (by omega)).trans ((congrFun (congrFun e234 _) _).trans (gset_eq _ _ _ _)))))))); have q8 : M239 o222 8 = (-1) := ((congrFun (congrFun e240 _) _).trans ((gset_ne (by omega)).trans ((congrFun (congrFun e238 _) _).trans ((gset_ne (by omega)).trans ((congrFun (congrFun e236 _) _).trans (gset_eq _ _ _ _)))))); have q10 : M239 o222 10 = (-1) := ((congrFun (congrFun e240 _) _).trans (gset_eq _ _ _ _)); omega)
                exact ih218 (v4 + 1) M239 (by omega) IM239 CM239 (gFr.s (gFr.s (gFr.s (gFr.s (gFr.c gFr.rf FM5 rfl) e234 (rP_5 ro222).2.2 rfl) e236 (rP_8 ro222).2.2 rfl) e238 (rP_9 ro222).2.2 rfl) e240 (rP_10 ro222).2.2 rfl) (by omega)
    refine G.sub (L' := [(0, gA n0 1), (1, gJ 0)]) [1, 0] rfl ?_
    exact j6 _ 0 M (by omega) I C gFr.rf (Nat.lt_succ_self _)
  · exact hq _ _ _ dX9_leaveHouse_16 ⟨I, C, gFr.rf⟩
theorem dX9_goBy_0 : decode cX9_goBy 0 = .ok (.iconst 0, 1) := dc_3 (by decide +kernel)
theorem dX9_goBy_1 : decode cX9_goBy 1 = .ok (.istore_n 2, 1) := dc_61 (by decide +kernel)
theorem dX9_goBy_2 : decode cX9_goBy 2 = .ok (.iload_n 2, 1) := dc_28 (by decide +kernel)
theorem dX9_goBy_3 : decode cX9_goBy 3 = .ok (.iload_n 1, 1) := dc_27 (by decide +kernel)
theorem dX9_goBy_4 : decode cX9_goBy 4 = .ok (.if_icmp .ge 132, 3) := dc_162 0 132 132 (by decide +kernel)
theorem dX9_goBy_136 : decode cX9_goBy 136 = .ok (.return_, 1) := dc_177 (by decide +kernel)
theorem dX9_goBy_7 : decode cX9_goBy 7 = .ok (.aload_n 0, 1) := dc_42 (by decide +kernel)
theorem dX9_goBy_8 : decode cX9_goBy 8 = .ok (.getfield 110, 3) := dc_180 0 110 (by decide +kernel)
theorem dX9_goBy_11 : decode cX9_goBy 11 = .ok (.sipush 300, 3) := dc_17 1 44 300 (by decide +kernel)
theorem dX9_goBy_14 : decode cX9_goBy 14 = .ok (.if_icmp .ge 122, 3) := dc_162 0 122 122 (by decide +kernel)
theorem dX9_goBy_17 : decode cX9_goBy 17 = .ok (.aload_n 0, 1) := dc_42 (by decide +kernel)
theorem dX9_goBy_18 : decode cX9_goBy 18 = .ok (.getfield 57, 3) := dc_180 0 57 (by decide +kernel)
theorem dX9_goBy_21 : decode cX9_goBy 21 = .ok (.aload_n 0, 1) := dc_42 (by decide +kernel)
theorem dX9_goBy_22 : decode cX9_goBy 22 = .ok (.getfield 110, 3) := dc_180 0 110 (by decide +kernel)
theorem dX9_goBy_25 : decode cX9_goBy 25 = .ok (.invokevirtual 191, 3) := dc_182 0 191 (by decide +kernel)
theorem kw_4_189 : (Jvm.Cond.methodLink "ParishUnion$Union" (191 : Nat) ({ cls := "ParishUnion$Past", name := "open", desc := "(I)V" } : Jvm.MethodName)) ∈ gT := gT_of (tb_4 _ (List.mem_of_getElem? (i := 189) rfl)) rfl
theorem kw_4_192 : (Jvm.Cond.code ({ cls := "ParishUnion$Past", name := "open", desc := "(I)V" } : Jvm.MethodName) prog_7_method_3_code (3 : Nat) (Option.none : Option Jvm.ClassFile.FieldType)) ∈ gT := gT_of (tb_4 _ (List.mem_of_getElem? (i := 192) rfl)) rfl
theorem okX5_open : gQok yX5_open cX5_open 3 (Option.none : Option Jvm.ClassFile.FieldType) 1 := ⟨kw_4_192, kw_1_6, by decide +kernel, by decide +kernel, by decide +kernel⟩
theorem kw_4_190 : (Jvm.Cond.instanceMethod ({ cls := "ParishUnion$Past", name := "open", desc := "(I)V" } : Jvm.MethodName)) ∈ gT := gT_of (tb_4 _ (List.mem_of_getElem? (i := 190) rfl)) rfl
theorem kw_4_191 : (Jvm.Cond.selects "ParishUnion$Past" ({ cls := "ParishUnion$Past", name := "open", desc := "(I)V" } : Jvm.MethodName) ({ cls := "ParishUnion$Past", name := "open", desc := "(I)V" } : Jvm.MethodName)) ∈ gT := gT_of (tb_4 _ (List.mem_of_getElem? (i := 191) rfl)) rfl
theorem dX9_goBy_28 : decode cX9_goBy 28 = .ok (.aload_n 0, 1) := dc_42 (by decide +kernel)
theorem dX9_goBy_29 : decode cX9_goBy 29 = .ok (.invokevirtual 195, 3) := dc_182 0 195 (by decide +kernel)
theorem kw_4_194 : (Jvm.Cond.methodLink "ParishUnion$Union" (195 : Nat) ({ cls := "ParishUnion$Union", name := "growHungry", desc := "()V" } : Jvm.MethodName)) ∈ gT := gT_of (tb_4 _ (List.mem_of_getElem? (i := 194) rfl)) rfl
theorem kw_4_197 : (Jvm.Cond.code ({ cls := "ParishUnion$Union", name := "growHungry", desc := "()V" } : Jvm.MethodName) prog_11_method_13_code (5 : Nat) (Option.none : Option Jvm.ClassFile.FieldType)) ∈ gT := gT_of (tb_4 _ (List.mem_of_getElem? (i := 197) rfl)) rfl
theorem okX9_growHungry : gQok yX9_growHungry cX9_growHungry 5 (Option.none : Option Jvm.ClassFile.FieldType) 0 := ⟨kw_4_197, kw_1_2, by decide +kernel, by decide +kernel, by decide +kernel⟩
theorem kw_4_196 : (Jvm.Cond.instanceMethod ({ cls := "ParishUnion$Union", name := "growHungry", desc := "()V" } : Jvm.MethodName)) ∈ gT := gT_of (tb_4 _ (List.mem_of_getElem? (i := 196) rfl)) rfl
theorem kw_0_22 : (Jvm.Cond.selects "ParishUnion$Union" ({ cls := "ParishUnion$Union", name := "growHungry", desc := "()V" } : Jvm.MethodName) ({ cls := "ParishUnion$Union", name := "growHungry", desc := "()V" } : Jvm.MethodName)) ∈ gT := gT_of (tb_0 _ (List.mem_of_getElem? (i := 22) rfl)) rfl
theorem dX9_goBy_32 : decode cX9_goBy 32 = .ok (.aload_n 0, 1) := dc_42 (by decide +kernel)
theorem dX9_goBy_33 : decode cX9_goBy 33 = .ok (.invokevirtual 198, 3) := dc_182 0 198 (by decide +kernel)
theorem kw_4_209 : (Jvm.Cond.methodLink "ParishUnion$Union" (198 : Nat) ({ cls := "ParishUnion$Union", name := "askAtHouse", desc := "()V" } : Jvm.MethodName)) ∈ gT := gT_of (tb_4 _ (List.mem_of_getElem? (i := 209) rfl)) rfl
theorem kw_4_212 : (Jvm.Cond.code ({ cls := "ParishUnion$Union", name := "askAtHouse", desc := "()V" } : Jvm.MethodName) prog_11_method_14_code (6 : Nat) (Option.none : Option Jvm.ClassFile.FieldType)) ∈ gT := gT_of (tb_4 _ (List.mem_of_getElem? (i := 212) rfl)) rfl
theorem okX9_askAtHouse : gQok yX9_askAtHouse cX9_askAtHouse 6 (Option.none : Option Jvm.ClassFile.FieldType) 0 := ⟨kw_4_212, kw_1_2, by decide +kernel, by decide +kernel, by decide +kernel⟩
theorem kw_4_211 : (Jvm.Cond.instanceMethod ({ cls := "ParishUnion$Union", name := "askAtHouse", desc := "()V" } : Jvm.MethodName)) ∈ gT := gT_of (tb_4 _ (List.mem_of_getElem? (i := 211) rfl)) rfl
theorem kw_0_23 : (Jvm.Cond.selects "ParishUnion$Union" ({ cls := "ParishUnion$Union", name := "askAtHouse", desc := "()V" } : Jvm.MethodName) ({ cls := "ParishUnion$Union", name := "askAtHouse", desc := "()V" } : Jvm.MethodName)) ∈ gT := gT_of (tb_0 _ (List.mem_of_getElem? (i := 23) rfl)) rfl
theorem dX9_goBy_36 : decode cX9_goBy 36 = .ok (.aload_n 0, 1) := dc_42 (by decide +kernel)
theorem dX9_goBy_37 : decode cX9_goBy 37 = .ok (.invokevirtual 201, 3) := dc_182 0 201 (by decide +kernel)
theorem kw_4_220 : (Jvm.Cond.methodLink "ParishUnion$Union" (201 : Nat) ({ cls := "ParishUnion$Union", name := "eat", desc := "()V" } : Jvm.MethodName)) ∈ gT := gT_of (tb_4 _ (List.mem_of_getElem? (i := 220) rfl)) rfl
theorem kw_4_223 : (Jvm.Cond.code ({ cls := "ParishUnion$Union", name := "eat", desc := "()V" } : Jvm.MethodName) prog_11_method_15_code (4 : Nat) (Option.none : Option Jvm.ClassFile.FieldType)) ∈ gT := gT_of (tb_4 _ (List.mem_of_getElem? (i := 223) rfl)) rfl
theorem okX9_eat : gQok yX9_eat cX9_eat 4 (Option.none : Option Jvm.ClassFile.FieldType) 0 := ⟨kw_4_223, kw_1_2, by decide +kernel, by decide +kernel, by decide +kernel⟩
theorem kw_4_222 : (Jvm.Cond.instanceMethod ({ cls := "ParishUnion$Union", name := "eat", desc := "()V" } : Jvm.MethodName)) ∈ gT := gT_of (tb_4 _ (List.mem_of_getElem? (i := 222) rfl)) rfl
theorem kw_0_24 : (Jvm.Cond.selects "ParishUnion$Union" ({ cls := "ParishUnion$Union", name := "eat", desc := "()V" } : Jvm.MethodName) ({ cls := "ParishUnion$Union", name := "eat", desc := "()V" } : Jvm.MethodName)) ∈ gT := gT_of (tb_0 _ (List.mem_of_getElem? (i := 24) rfl)) rfl
theorem dX9_goBy_40 : decode cX9_goBy 40 = .ok (.aload_n 0, 1) := dc_42 (by decide +kernel)
theorem dX9_goBy_41 : decode cX9_goBy 41 = .ok (.invokevirtual 204, 3) := dc_182 0 204 (by decide +kernel)
theorem kw_4_224 : (Jvm.Cond.methodLink "ParishUnion$Union" (204 : Nat) ({ cls := "ParishUnion$Union", name := "fallIll", desc := "()V" } : Jvm.MethodName)) ∈ gT := gT_of (tb_4 _ (List.mem_of_getElem? (i := 224) rfl)) rfl
theorem kw_4_227 : (Jvm.Cond.code ({ cls := "ParishUnion$Union", name := "fallIll", desc := "()V" } : Jvm.MethodName) prog_11_method_16_code (5 : Nat) (Option.none : Option Jvm.ClassFile.FieldType)) ∈ gT := gT_of (tb_4 _ (List.mem_of_getElem? (i := 227) rfl)) rfl
theorem okX9_fallIll : gQok yX9_fallIll cX9_fallIll 5 (Option.none : Option Jvm.ClassFile.FieldType) 0 := ⟨kw_4_227, kw_1_2, by decide +kernel, by decide +kernel, by decide +kernel⟩
theorem kw_4_226 : (Jvm.Cond.instanceMethod ({ cls := "ParishUnion$Union", name := "fallIll", desc := "()V" } : Jvm.MethodName)) ∈ gT := gT_of (tb_4 _ (List.mem_of_getElem? (i := 226) rfl)) rfl
theorem kw_0_25 : (Jvm.Cond.selects "ParishUnion$Union" ({ cls := "ParishUnion$Union", name := "fallIll", desc := "()V" } : Jvm.MethodName) ({ cls := "ParishUnion$Union", name := "fallIll", desc := "()V" } : Jvm.MethodName)) ∈ gT := gT_of (tb_0 _ (List.mem_of_getElem? (i := 25) rfl)) rfl
theorem dX9_goBy_44 : decode cX9_goBy 44 = .ok (.aload_n 0, 1) := dc_42 (by decide +kernel)
theorem dX9_goBy_45 : decode cX9_goBy 45 = .ok (.invokevirtual 207, 3) := dc_182 0 207 (by decide +kernel)
theorem kw_4_228 : (Jvm.Cond.methodLink "ParishUnion$Union" (207 : Nat) ({ cls := "ParishUnion$Union", name := "die", desc := "()V" } : Jvm.MethodName)) ∈ gT := gT_of (tb_4 _ (List.mem_of_getElem? (i := 228) rfl)) rfl
theorem kw_4_231 : (Jvm.Cond.code ({ cls := "ParishUnion$Union", name := "die", desc := "()V" } : Jvm.MethodName) prog_11_method_17_code (4 : Nat) (Option.none : Option Jvm.ClassFile.FieldType)) ∈ gT := gT_of (tb_4 _ (List.mem_of_getElem? (i := 231) rfl)) rfl
theorem okX9_die : gQok yX9_die cX9_die 4 (Option.none : Option Jvm.ClassFile.FieldType) 0 := ⟨kw_4_231, kw_1_2, by decide +kernel, by decide +kernel, by decide +kernel⟩
theorem kw_4_230 : (Jvm.Cond.instanceMethod ({ cls := "ParishUnion$Union", name := "die", desc := "()V" } : Jvm.MethodName)) ∈ gT := gT_of (tb_4 _ (List.mem_of_getElem? (i := 230) rfl)) rfl
theorem kw_0_26 : (Jvm.Cond.selects "ParishUnion$Union" ({ cls := "ParishUnion$Union", name := "die", desc := "()V" } : Jvm.MethodName) ({ cls := "ParishUnion$Union", name := "die", desc := "()V" } : Jvm.MethodName)) ∈ gT := gT_of (tb_0 _ (List.mem_of_getElem? (i := 26) rfl)) rfl
theorem dX9_goBy_48 : decode cX9_goBy 48 = .ok (.aload_n 0, 1) := dc_42 (by decide +kernel)
theorem dX9_goBy_49 : decode cX9_goBy 49 = .ok (.invokevirtual 210, 3) := dc_182 0 210 (by decide +kernel)
theorem kw_4_232 : (Jvm.Cond.methodLink "ParishUnion$Union" (210 : Nat) ({ cls := "ParishUnion$Union", name := "leaveHouse", desc := "()V" } : Jvm.MethodName)) ∈ gT := gT_of (tb_4 _ (List.mem_of_getElem? (i := 232) rfl)) rfl
theorem kw_4_235 : (Jvm.Cond.code ({ cls := "ParishUnion$Union", name := "leaveHouse", desc := "()V" } : Jvm.MethodName) prog_11_method_18_code (3 : Nat) (Option.none : Option Jvm.ClassFile.FieldType)) ∈ gT := gT_of (tb_4 _ (List.mem_of_getElem? (i := 235) rfl)) rfl
theorem okX9_leaveHouse : gQok yX9_leaveHouse cX9_leaveHouse 3 (Option.none : Option Jvm.ClassFile.FieldType) 0 := ⟨kw_4_235, kw_1_2, by decide +kernel, by decide +kernel, by decide +kernel⟩
theorem kw_4_234 : (Jvm.Cond.instanceMethod ({ cls := "ParishUnion$Union", name := "leaveHouse", desc := "()V" } : Jvm.MethodName)) ∈ gT := gT_of (tb_4 _ (List.mem_of_getElem? (i := 234) rfl)) rfl
theorem kw_0_27 : (Jvm.Cond.selects "ParishUnion$Union" ({ cls := "ParishUnion$Union", name := "leaveHouse", desc := "()V" } : Jvm.MethodName) ({ cls := "ParishUnion$Union", name := "leaveHouse", desc := "()V" } : Jvm.MethodName)) ∈ gT := gT_of (tb_0 _ (List.mem_of_getElem? (i := 27) rfl)) rfl
theorem dX9_goBy_52 : decode cX9_goBy 52 = .ok (.iconst 0, 1) := dc_3 (by decide +kernel)
theorem dX9_goBy_53 : decode cX9_goBy 53 = .ok (.istore_n 3, 1) := dc_62 (by decide +kernel)
theorem dX9_goBy_54 : decode cX9_goBy 54 = .ok (.iload_n 3, 1) := dc_29 (by decide +kernel)
theorem dX9_goBy_55 : decode cX9_goBy 55 = .ok (.aload_n 0, 1) := dc_42 (by decide +kernel)
theorem dX9_goBy_56 : decode cX9_goBy 56 = .ok (.getfield 79, 3) := dc_180 0 79 (by decide +kernel)
theorem dX9_goBy_59 : decode cX9_goBy 59 = .ok (.if_icmp .ge 50, 3) := dc_162 0 50 50 (by decide +kernel)
theorem dX9_goBy_109 : decode cX9_goBy 109 = .ok (.aload_n 0, 1) := dc_42 (by decide +kernel)
theorem dX9_goBy_110 : decode cX9_goBy 110 = .ok (.getfield 57, 3) := dc_180 0 57 (by decide +kernel)
theorem dX9_goBy_113 : decode cX9_goBy 113 = .ok (.aload_n 0, 1) := dc_42 (by decide +kernel)
theorem dX9_goBy_114 : decode cX9_goBy 114 = .ok (.getfield 110, 3) := dc_180 0 110 (by decide +kernel)
theorem dX9_goBy_117 : decode cX9_goBy 117 = .ok (.invokevirtual 220, 3) := dc_182 0 220 (by decide +kernel)
theorem kw_5_1 : (Jvm.Cond.methodLink "ParishUnion$Union" (220 : Nat) ({ cls := "ParishUnion$Past", name := "close", desc := "(I)V" } : Jvm.MethodName)) ∈ gT := gT_of (tb_5 _ (List.mem_of_getElem? (i := 1) rfl)) rfl
theorem kw_5_4 : (Jvm.Cond.code ({ cls := "ParishUnion$Past", name := "close", desc := "(I)V" } : Jvm.MethodName) prog_7_method_6_code (3 : Nat) (Option.none : Option Jvm.ClassFile.FieldType)) ∈ gT := gT_of (tb_5 _ (List.mem_of_getElem? (i := 4) rfl)) rfl
theorem okX5_close : gQok yX5_close cX5_close 3 (Option.none : Option Jvm.ClassFile.FieldType) 1 := ⟨kw_5_4, kw_1_6, by decide +kernel, by decide +kernel, by decide +kernel⟩
theorem kw_5_2 : (Jvm.Cond.instanceMethod ({ cls := "ParishUnion$Past", name := "close", desc := "(I)V" } : Jvm.MethodName)) ∈ gT := gT_of (tb_5 _ (List.mem_of_getElem? (i := 2) rfl)) rfl
theorem kw_5_3 : (Jvm.Cond.selects "ParishUnion$Past" ({ cls := "ParishUnion$Past", name := "close", desc := "(I)V" } : Jvm.MethodName) ({ cls := "ParishUnion$Past", name := "close", desc := "(I)V" } : Jvm.MethodName)) ∈ gT := gT_of (tb_5 _ (List.mem_of_getElem? (i := 3) rfl)) rfl
theorem dX9_goBy_120 : decode cX9_goBy 120 = .ok (.aload_n 0, 1) := dc_42 (by decide +kernel)
theorem dX9_goBy_121 : decode cX9_goBy 121 = .ok (.dup, 1) := dc_89 (by decide +kernel)
theorem dX9_goBy_122 : decode cX9_goBy 122 = .ok (.getfield 110, 3) := dc_180 0 110 (by decide +kernel)
theorem dX9_goBy_125 : decode cX9_goBy 125 = .ok (.iconst 1, 1) := dc_4 (by decide +kernel)
theorem dX9_goBy_126 : decode cX9_goBy 126 = .ok (.iadd, 1) := dc_96 (by decide +kernel)
theorem dX9_goBy_127 : decode cX9_goBy 127 = .ok (.putfield 110, 3) := dc_181 0 110 (by decide +kernel)
theorem dX9_goBy_130 : decode cX9_goBy 130 = .ok (.iinc 2 1, 3) := dc_132 2 1 1 (by decide +kernel)
theorem dX9_goBy_133 : decode cX9_goBy 133 = .ok (.goto (-131), 3) := dc_167 255 125 (-131) (by decide +kernel)
theorem dX9_goBy_62 : decode cX9_goBy 62 = .ok (.aload_n 0, 1) := dc_42 (by decide +kernel)
theorem dX9_goBy_63 : decode cX9_goBy 63 = .ok (.getfield 20, 3) := dc_180 0 20 (by decide +kernel)
theorem dX9_goBy_66 : decode cX9_goBy 66 = .ok (.iload_n 3, 1) := dc_29 (by decide +kernel)
theorem dX9_goBy_67 : decode cX9_goBy 67 = .ok (.aaload, 1) := dc_50 (by decide +kernel)
theorem dX9_goBy_68 : decode cX9_goBy 68 = .ok (.bipush 30, 2) := dc_16 30 30 (by decide +kernel)
theorem dX9_goBy_70 : decode cX9_goBy 70 = .ok (.aload_n 0, 1) := dc_42 (by decide +kernel)
theorem dX9_goBy_71 : decode cX9_goBy 71 = .ok (.getfield 20, 3) := dc_180 0 20 (by decide +kernel)
theorem dX9_goBy_74 : decode cX9_goBy 74 = .ok (.iload_n 3, 1) := dc_29 (by decide +kernel)
theorem dX9_goBy_75 : decode cX9_goBy 75 = .ok (.aaload, 1) := dc_50 (by decide +kernel)
theorem dX9_goBy_76 : decode cX9_goBy 76 = .ok (.getfield 213, 3) := dc_180 0 213 (by decide +kernel)
theorem dX9_goBy_79 : decode cX9_goBy 79 = .ok (.invokestatic 180, 3) := dc_184 0 180 (by decide +kernel)
theorem dX9_goBy_82 : decode cX9_goBy 82 = .ok (.putfield 213, 3) := dc_181 0 213 (by decide +kernel)
theorem dX9_goBy_85 : decode cX9_goBy 85 = .ok (.aload_n 0, 1) := dc_42 (by decide +kernel)
theorem dX9_goBy_86 : decode cX9_goBy 86 = .ok (.getfield 57, 3) := dc_180 0 57 (by decide +kernel)
theorem dX9_goBy_89 : decode cX9_goBy 89 = .ok (.aload_n 0, 1) := dc_42 (by decide +kernel)
theorem dX9_goBy_90 : decode cX9_goBy 90 = .ok (.getfield 110, 3) := dc_180 0 110 (by decide +kernel)
theorem dX9_goBy_93 : decode cX9_goBy 93 = .ok (.iload_n 3, 1) := dc_29 (by decide +kernel)
theorem dX9_goBy_94 : decode cX9_goBy 94 = .ok (.aload_n 0, 1) := dc_42 (by decide +kernel)
theorem dX9_goBy_95 : decode cX9_goBy 95 = .ok (.getfield 20, 3) := dc_180 0 20 (by decide +kernel)
theorem dX9_goBy_98 : decode cX9_goBy 98 = .ok (.iload_n 3, 1) := dc_29 (by decide +kernel)
theorem dX9_goBy_99 : decode cX9_goBy 99 = .ok (.aaload, 1) := dc_50 (by decide +kernel)
theorem dX9_goBy_100 : decode cX9_goBy 100 = .ok (.invokevirtual 216, 3) := dc_182 0 216 (by decide +kernel)
theorem kw_4_236 : (Jvm.Cond.methodLink "ParishUnion$Union" (216 : Nat) ({ cls := "ParishUnion$Past", name := "write", desc := "(IILParishUnion$Person;)V" } : Jvm.MethodName)) ∈ gT := gT_of (tb_4 _ (List.mem_of_getElem? (i := 236) rfl)) rfl
theorem kw_4_239 : (Jvm.Cond.code ({ cls := "ParishUnion$Past", name := "write", desc := "(IILParishUnion$Person;)V" } : Jvm.MethodName) prog_7_method_5_code (4 : Nat) (Option.none : Option Jvm.ClassFile.FieldType)) ∈ gT := gT_of (tb_4 _ (List.mem_of_getElem? (i := 239) rfl)) rfl
theorem okX5_write : gQok yX5_write cX5_write 4 (Option.none : Option Jvm.ClassFile.FieldType) 3 := ⟨kw_4_239, kw_1_6, by decide +kernel, by decide +kernel, by decide +kernel⟩
theorem kw_4_237 : (Jvm.Cond.instanceMethod ({ cls := "ParishUnion$Past", name := "write", desc := "(IILParishUnion$Person;)V" } : Jvm.MethodName)) ∈ gT := gT_of (tb_4 _ (List.mem_of_getElem? (i := 237) rfl)) rfl
theorem kw_4_238 : (Jvm.Cond.selects "ParishUnion$Past" ({ cls := "ParishUnion$Past", name := "write", desc := "(IILParishUnion$Person;)V" } : Jvm.MethodName) ({ cls := "ParishUnion$Past", name := "write", desc := "(IILParishUnion$Person;)V" } : Jvm.MethodName)) ∈ gT := gT_of (tb_4 _ (List.mem_of_getElem? (i := 238) rfl)) rfl
theorem dX9_goBy_103 : decode cX9_goBy 103 = .ok (.iinc 3 1, 3) := dc_132 3 1 1 (by decide +kernel)
theorem dX9_goBy_106 : decode cX9_goBy 106 = .ok (.goto (-52), 3) := dc_167 255 204 (-52) (by decide +kernel)
abbrev R_X9_goBy : Room := { frames := 6, cells := 0, slots := 0, locals := 169 }
set_option maxRecDepth 100000 in
set_option maxHeartbeats 4000000 in
theorem s_X9_goBy {l : Launch} {n0 : Nat} {D : va_G} {cA : Nat → ClassId} {M : gM} (a : Int) (r_a : -2147483648 ≤ a ∧ a ≤ 2147483647) {sz : Nat} (hsz : 206 ≤ sz) (I : gI sz M) (C : gC sz M)   : Met l yX9_goBy (gWsOf yX9_goBy cX9_goBy 4 (Option.none : Option Jvm.ClassFile.FieldType)) R_X9_goBy (gPc n0 D cA [gA n0 1, gJ a] M sz) (gQv n0 D cA sz (fun M1 => gI sz M1 ∧ gC sz M1 ∧ gFr 16844880 M M1 ∧ (0 ≤ a ∧ M 1 15 + a ≤ 300 → M1 1 15 = M 1 15 + a))) 0 0 (fun q => n0 ≤ q) := by
  refine gMetV [gA n0 1, gJ a] (by decide) (Nat.le_of_ble_eq_true rfl) ⟨rfl, rfl⟩ ?_
  intro p e s m args below meth cd Q X hq
  have X : gCx p s m args meth cd n0 D cA "ParishUnion$Union" cX9_goBy 4 := X
  show G p l e R_X9_goBy s m args below meth cd n0 D cA 4 Q 0 0 M sz 0 [(0, gA n0 1), (1, gJ a)] []
  obtain ⟨v1, hv1, rv1⟩ := gRd I (by decide) (gsz hsz (by decide)) rc_1_15.1
  refine g_iconst (n := 1) X dX9_goBy_0 rfl ?_
  refine g_istore_n (n := 2) (L' := [(2, gJ 0), (0, gA n0 1), (1, gJ a)]) X dX9_goBy_1 rfl (by decide) rfl rfl ?_
  have j4 : ∀ (N1924 : Nat) (v2 : Int) (M3 : gM) , (0 ≤ v2 ∧ v2 ≤ 2147483647) → gI sz M3 → gC sz M3 → gFr 16844880 M M3 → (M3 1 15 = M 1 15 + v2 ∧ (v2 ≤ a ∨ a < 0)) → (2147483647 - v2).toNat < N1924 → G p l e R_X9_goBy s m args below meth cd n0 D cA 4 Q 0 0 M3 sz 2 [(0, gA n0 1), (1, gJ a), (2, gJ v2)] [] := by
    intro N1924; induction N1924 with
    | zero => intro v2 M3 rv2 IM3 CM3 FM3 hn5 hm1926; exfalso; omega
    | succ N1924 ih1925 =>
      intro v2 M3 rv2 IM3 CM3 FM3 hn5 hm1926
      refine g_iload_n (n := 3) X 2 dX9_goBy_2 rfl rfl rfl ?_
      refine g_iload_n (n := 4) X 1 dX9_goBy_3 rfl rfl rfl ?_
      refine g_icmp_ge (n := 7) (tgt := 136) X dX9_goBy_4 (by decide) (by omega) (by omega) rfl (fun c1927 => ?_) (fun c1927 => ?_)
      · exact hq _ _ _ dX9_goBy_136 ⟨IM3, CM3, (gFr.c gFr.rf FM3 rfl), by omega⟩
      · refine g_aload_n (n := 8) X 0 dX9_goBy_7 rfl rfl rfl ?_
        obtain ⟨v1928, hv1928, rv1928⟩ := gRd IM3 (by decide) (gsz hsz (by decide)) rc_1_15.1
        refine gg_9_15 (n := 11) (z := v1928) X (by decide) (gsz hsz (by decide)) lay_1 kw_2_138 dX9_goBy_8 rfl hv1928 ?_
        refine g_sipush (n := 14) X dX9_goBy_11 (by decide +kernel) rfl ?_
        refine g_icmp_ge (n := 17) (tgt := 136) X dX9_goBy_14 (by decide) (by omega) (by omega) rfl (fun c1929 => ?_) (fun c1929 => ?_)
        · exact hq _ _ _ dX9_goBy_136 ⟨IM3, CM3, (gFr.c gFr.rf FM3 rfl), by have q0 := hv1928; omega⟩
        · refine g_aload_n (n := 18) X 0 dX9_goBy_17 rfl rfl rfl ?_
          refine gg_9_7 (n := 21) (z := 23) X (by decide) (gsz hsz (by decide)) lay_1 kw_2_120 dX9_goBy_18 rfl (rf_1_7 IM3 (gsz hsz (by decide))) (by decide) ?_
          refine g_aload_n (n := 22) X 0 dX9_goBy_21 rfl rfl rfl ?_
          refine gg_9_15 (n := 25) (z := v1928) X (by decide) (gsz hsz (by decide)) lay_1 kw_2_138 dX9_goBy_22 rfl hv1928 ?_
          refine g_callVv (n := 28) (As := [gJ v1928]) (rest := []) (cs1 := 0) (ss1 := 0) X (s_X5_open v1928 (by omega) hsz IM3 CM3 ) okX5_open kw_4_189 ⟨kw_4_190, kw_4_191⟩ ⟨rfl, rfl⟩ ⟨Nat.le_of_ble_eq_true rfl, Nat.le_of_ble_eq_true rfl⟩ rfl (by decide) (gsz hsz (by decide)) lay_23 rfl rfl (Nat.le_of_ble_eq_true rfl) ⟨Nat.le_of_ble_eq_true rfl, Nat.le_of_ble_eq_true rfl⟩ rfl rfl dX9_goBy_25 rfl (fun M1931 P1932 => ?_)
          obtain ⟨IM1931, CM1931, FM1931⟩ := P1932
          refine g_aload_n (n := 29) X 0 dX9_goBy_28 rfl rfl rfl ?_
          refine g_callVv (n := 32) (As := []) (rest := []) (cs1 := 0) (ss1 := 0) X (s_X9_growHungry  hsz IM1931 CM1931 (by have := ((gFr.at FM1931 rc_1_15.2.2 rfl).trans hv1928); omega)) okX9_growHungry kw_4_194 ⟨kw_4_196, kw_0_22⟩ ⟨rfl, rfl⟩ ⟨Nat.le_of_ble_eq_true rfl, Nat.le_of_ble_eq_true rfl⟩ rfl (by decide) (gsz hsz (by decide)) lay_1 rfl rfl (Nat.le_of_ble_eq_true rfl) ⟨Nat.le_of_ble_eq_true rfl, Nat.le_of_ble_eq_true rfl⟩ rfl rfl dX9_goBy_29 rfl (fun M1934 P1935 => ?_)
          obtain ⟨IM1934, CM1934, FM1934⟩ := P1935
          refine g_aload_n (n := 33) X 0 dX9_goBy_32 rfl rfl rfl ?_
          refine g_callVv (n := 36) (As := []) (rest := []) (cs1 := 0) (ss1 := 0) X (s_X9_askAtHouse  hsz IM1934 CM1934 (by have := ((gFr.at FM1934 rc_1_15.2.2 rfl).trans ((gFr.at FM1931 rc_1_15.2.2 rfl).trans hv1928)); omega)) okX9_askAtHouse kw_4_209 ⟨kw_4_211, kw_0_23⟩ ⟨rfl, rfl⟩ ⟨Nat.le_of_ble_eq_true rfl, Nat.le_of_ble_eq_true rfl⟩ rfl (by decide) (gsz hsz (by decide)) lay_1 rfl rfl (Nat.le_of_ble_eq_true rfl) ⟨Nat.le_of_ble_eq_true rfl, Nat.le_of_ble_eq_true rfl⟩ rfl rfl dX9_goBy_33 rfl (fun M1937 P1938 => ?_)
          obtain ⟨IM1937, CM1937, FM1937⟩ := P1938
          refine g_aload_n (n := 37) X 0 dX9_goBy_36 rfl rfl rfl ?_
          refine g_callVv (n := 40) (As := []) (rest := []) (cs1 := 0) (ss1 := 0) X (s_X9_eat  hsz IM1937 CM1937 (by have := ((gFr.at FM1937 rc_1_15.2.2 rfl).trans ((gFr.at FM1934 rc_1_15.2.2 rfl).trans ((gFr.at FM1931 rc_1_15.2.2 rfl).trans hv1928))); omega)) okX9_eat kw_4_220 ⟨kw_4_222, kw_0_24⟩ ⟨rfl, rfl⟩ ⟨Nat.le_of_ble_eq_true rfl, Nat.le_of_ble_eq_true rfl⟩ rfl (by decide) (gsz hsz (by decide)) lay_1 rfl rfl (Nat.le_of_ble_eq_true rfl) ⟨Nat.le_of_ble_eq_true rfl, Nat.le_of_ble_eq_true rfl⟩ rfl rfl dX9_goBy_37 rfl (fun M1940 P1941 => ?_)
          obtain ⟨IM1940, CM1940, FM1940⟩ := P1941
          refine g_aload_n (n := 41) X 0 dX9_goBy_40 rfl rfl rfl ?_
          refine g_callVv (n := 44) (As := []) (rest := []) (cs1 := 0) (ss1 := 0) X (s_X9_fallIll  hsz IM1940 CM1940 (by have := ((gFr.at FM1940 rc_1_15.2.2 rfl).trans ((gFr.at FM1937 rc_1_15.2.2 rfl).trans ((gFr.at FM1934 rc_1_15.2.2 rfl).trans ((gFr.at FM1931 rc_1_15.2.2 rfl).trans hv1928)))); omega)) okX9_fallIll kw_4_224 ⟨kw_4_226, kw_0_25⟩ ⟨rfl, rfl⟩ ⟨Nat.le_of_ble_eq_true rfl, Nat.le_of_ble_eq_true rfl⟩ rfl (by decide) (gsz hsz (by decide)) lay_1 rfl rfl (Nat.le_of_ble_eq_true rfl) ⟨Nat.le_of_ble_eq_true rfl, Nat.le_of_ble_eq_true rfl⟩ rfl rfl dX9_goBy_41 rfl (fun M1943 P1944 => ?_)
          obtain ⟨IM1943, CM1943, FM1943⟩ := P1944
          refine g_aload_n (n := 45) X 0 dX9_goBy_44 rfl rfl rfl ?_
          refine g_callVv (n := 48) (As := []) (rest := []) (cs1 := 0) (ss1 := 0) X (s_X9_die  hsz IM1943 CM1943 (by have := ((gFr.at FM1943 rc_1_15.2.2 rfl).trans ((gFr.at FM1940 rc_1_15.2.2 rfl).trans ((gFr.at FM1937 rc_1_15.2.2 rfl).trans ((gFr.at FM1934 rc_1_15.2.2 rfl).trans ((gFr.at FM1931 rc_1_15.2.2 rfl).trans hv1928))))); omega)) okX9_die kw_4_228 ⟨kw_4_230, kw_0_26⟩ ⟨rfl, rfl⟩ ⟨Nat.le_of_ble_eq_true rfl, Nat.le_of_ble_eq_true rfl⟩ rfl (by decide) (gsz hsz (by decide)) lay_1 rfl rfl (Nat.le_of_ble_eq_true rfl) ⟨Nat.le_of_ble_eq_true rfl, Nat.le_of_ble_eq_true rfl⟩ rfl rfl dX9_goBy_45 rfl (fun M1946 P1947 => ?_)
          obtain ⟨IM1946, CM1946, FM1946⟩ := P1947
          refine g_aload_n (n := 49) X 0 dX9_goBy_48 rfl rfl rfl ?_
          refine g_callVv (n := 52) (As := []) (rest := []) (cs1 := 0) (ss1 := 0) X (s_X9_leaveHouse  hsz IM1946 CM1946 (by have := ((gFr.at FM1946 rc_1_15.2.2 rfl).trans ((gFr.at FM1943 rc_1_15.2.2 rfl).trans ((gFr.at FM1940 rc_1_15.2.2 rfl).trans ((gFr.at FM1937 rc_1_15.2.2 rfl).trans ((gFr.at FM1934 rc_1_15.2.2 rfl).trans ((gFr.at FM1931 rc_1_15.2.2 rfl).trans hv1928)))))); omega)) okX9_leaveHouse kw_4_232 ⟨kw_4_234, kw_0_27⟩ ⟨rfl, rfl⟩ ⟨Nat.le_of_ble_eq_true rfl, Nat.le_of_ble_eq_true rfl⟩ rfl (by decide) (gsz hsz (by decide)) lay_1 rfl rfl (Nat.le_of_ble_eq_true rfl) ⟨Nat.le_of_ble_eq_true rfl, Nat.le_of_ble_eq_true rfl⟩ rfl rfl dX9_goBy_49 rfl (fun M1949 P1950 => ?_)
          obtain ⟨IM1949, CM1949, FM1949⟩ := P1950
          refine g_iconst (n := 53) X dX9_goBy_52 rfl ?_
          refine g_istore_n (n := 54) (L' := [(3, gJ 0), (0, gA n0 1), (1, gJ a), (2, gJ v2)]) X dX9_goBy_53 rfl (by decide) rfl rfl ?_
          have j1953 : ∀ (N2029 : Nat) (v1951 : Int) (M1952 : gM) , (0 ≤ v1951 ∧ v1951 ≤ 16) → gI sz M1952 → gC sz M1952 → gFr 65552 M1949 M1952 → (16 - v1951).toNat < N2029 → G p l e R_X9_goBy s m args below meth cd n0 D cA 4 Q 0 0 M1952 sz 54 [(0, gA n0 1), (1, gJ a), (2, gJ v2), (3, gJ v1951)] [] := by
            intro N2029; induction N2029 with
            | zero => intro v1951 M1952 rv1951 IM1952 CM1952 FM1952 hm2031; exfalso; omega
            | succ N2029 ih2030 =>
              intro v1951 M1952 rv1951 IM1952 CM1952 FM1952 hm2031
              refine g_iload_n (n := 55) X 3 dX9_goBy_54 rfl rfl rfl ?_
              refine g_aload_n (n := 56) X 0 dX9_goBy_55 rfl rfl rfl ?_
              obtain ⟨v2032, hv2032, rv2032⟩ := gRd IM1952 (by decide) (gsz hsz (by decide)) rc_1_10.1
              refine gg_9_10 (n := 59) (z := v2032) X (by decide) (gsz hsz (by decide)) lay_1 kw_2_126 dX9_goBy_56 rfl hv2032 ?_
              refine g_icmp_ge (n := 62) (tgt := 109) X dX9_goBy_59 (by decide) (by omega) (by omega) rfl (fun c2033 => ?_) (fun c2033 => ?_)
              · refine g_aload_n (n := 110) X 0 dX9_goBy_109 rfl rfl rfl ?_
                refine gg_9_7 (n := 113) (z := 23) X (by decide) (gsz hsz (by decide)) lay_1 kw_2_120 dX9_goBy_110 rfl (rf_1_7 IM1952 (gsz hsz (by decide))) (by decide) ?_
                refine g_aload_n (n := 114) X 0 dX9_goBy_113 rfl rfl rfl ?_
                refine gg_9_15 (n := 117) (z := v1928) X (by decide) (gsz hsz (by decide)) lay_1 kw_2_138 dX9_goBy_114 rfl ((gFr.at FM1952 rc_1_15.2.2 rfl).trans ((gFr.at FM1949 rc_1_15.2.2 rfl).trans ((gFr.at FM1946 rc_1_15.2.2 rfl).trans ((gFr.at FM1943 rc_1_15.2.2 rfl).trans ((gFr.at FM1940 rc_1_15.2.2 rfl).trans ((gFr.at FM1937 rc_1_15.2.2 rfl).trans ((gFr.at FM1934 rc_1_15.2.2 rfl).trans ((gFr.at FM1931 rc_1_15.2.2 rfl).trans hv1928)))))))) ?_
                refine g_callVv (n := 120) (As := [gJ v1928]) (rest := []) (cs1 := 0) (ss1 := 0) X (s_X5_close v1928 (by omega) hsz IM1952 CM1952 ) okX5_close kw_5_1 ⟨kw_5_2, kw_5_3⟩ ⟨rfl, rfl⟩ ⟨Nat.le_of_ble_eq_true rfl, Nat.le_of_ble_eq_true rfl⟩ rfl (by decide) (gsz hsz (by decide)) lay_23 rfl rfl (Nat.le_of_ble_eq_true rfl) ⟨Nat.le_of_ble_eq_true rfl, Nat.le_of_ble_eq_true rfl⟩ rfl rfl dX9_goBy_117 rfl (fun M2035 P2036 => ?_)
                obtain ⟨IM2035, CM2035, FM2035⟩ := P2036
                refine g_aload_n (n := 121) X 0 dX9_goBy_120 rfl rfl rfl ?_
                refine g_dup (n := 122) X dX9_goBy_121 rfl rfl ?_
                refine gg_9_15 (n := 125) (z := v1928) X (by decide) (gsz hsz (by decide)) lay_1 kw_2_138 dX9_goBy_122 rfl ((gFr.at FM2035 rc_1_15.2.2 rfl).trans ((gFr.at FM1952 rc_1_15.2.2 rfl).trans ((gFr.at FM1949 rc_1_15.2.2 rfl).trans ((gFr.at FM1946 rc_1_15.2.2 rfl).trans ((gFr.at FM1943 rc_1_15.2.2 rfl).trans ((gFr.at FM1940 rc_1_15.2.2 rfl).trans ((gFr.at FM1937 rc_1_15.2.2 rfl).trans ((gFr.at FM1934 rc_1_15.2.2 rfl).trans ((gFr.at FM1931 rc_1_15.2.2 rfl).trans hv1928))))))))) ?_
                refine g_iconst (n := 126) X dX9_goBy_125 rfl ?_
                refine g_iadd (n := 127) (z := v1928 + 1) X dX9_goBy_126 (by omega) rfl ?_
                refine gp_9_15 (n := 130) X (by decide) (gsz hsz (by decide)) lay_1 kw_2_138 dX9_goBy_127 rfl ?_
                refine G.nm (fun M2037 e2038 => ?_)
                have IM2037 : gI sz M2037 := gI.set IM2035 rc_1_15.1 (by omega) e2038
                have CM2037 : gC sz M2037 := gC.set CM2035 rc_1_15.2.1 e2038
                refine g_iinc (n := 133) (w := v2 + 1) (L' := [(2, gJ (v2 + 1)), (0, gA n0 1), (1, gJ a), (3, gJ v1951)]) X 2 dX9_goBy_130 rfl rfl (by decide) rfl rfl ?_
                refine g_goto (tgt := 2) X dX9_goBy_133 (by decide) ?_
                refine G.sub (L' := [(0, gA n0 1), (1, gJ a), (2, gJ (v2 + 1))]) [1, 2, 0] rfl ?_
                exact ih1925 (v2 + 1) M2037 (by omega) IM2037 CM2037 (gFr.s (gFr.c (gFr.c (gFr.c (gFr.c (gFr.c (gFr.c (gFr.c (gFr.c (gFr.c (gFr.c gFr.rf FM3 rfl) FM1931 rfl) FM1934 rfl) FM1937 rfl) FM1940 rfl) FM1943 rfl) FM1946 rfl) FM1949 rfl) FM1952 rfl) FM2035 rfl) e2038 rc_1_15.2.2 rfl) (by have h1 := ((congrFun (congrFun e2038 _) _).trans (gset_eq _ _ _ _)); omega) (by omega)
              · refine g_aload_n (n := 63) X 0 dX9_goBy_62 rfl rfl rfl ?_
                refine gg_9_1 (n := 66) (z := 5) X (by decide) (gsz hsz (by decide)) lay_1 kw_2_106 dX9_goBy_63 rfl (rf_1_1 IM1952 (gsz hsz (by decide))) (by decide) ?_
                refine g_iload_n (n := 67) X 3 dX9_goBy_66 rfl rfl rfl ?_
                obtain ⟨o2039, ho2039, ro2039⟩ : ∃ o : Int, o = 31 + v1951 ∧ (31 ≤ o ∧ o < 47) := ⟨_, rfl, by omega⟩
                refine g_aald6 (n := 68) (t := o2039) X (by decide) (gsz hsz (by decide)) lay_5 (by omega) (by omega) (by decide) (gA5 IM1952 hsz (by omega) (by omega) (by omega)) (by omega) dX9_goBy_67 rfl ?_
                refine g_bipush (n := 70) X dX9_goBy_68 (by decide +kernel) rfl ?_
                refine g_aload_n (n := 71) X 0 dX9_goBy_70 rfl rfl rfl ?_
                refine gg_9_1 (n := 74) (z := 5) X (by decide) (gsz hsz (by decide)) lay_1 kw_2_106 dX9_goBy_71 rfl (rf_1_1 IM1952 (gsz hsz (by decide))) (by decide) ?_
                refine g_iload_n (n := 75) X 3 dX9_goBy_74 rfl rfl rfl ?_
                refine g_aald6 (n := 76) (t := o2039) X (by decide) (gsz hsz (by decide)) lay_5 (by omega) (by omega) (by decide) (gA5 IM1952 hsz (by omega) (by omega) (by omega)) (by omega) dX9_goBy_75 rfl ?_
                obtain ⟨v2040, hv2040, rv2040⟩ := gRd IM1952 (Po0 ro2039) (Posz hsz ro2039) (rP_6 ro2039).1
                refine gg_6_6 (n := 79) (z := v2040) X (Po0 ro2039) (Posz hsz ro2039) (lay2_P ro2039) kw_1_199 dX9_goBy_76 rfl hv2040 ?_
                refine g_mmin (n := 82) X kw_4_176 kw_3_45 kw_1_14 kw_3_46 (by omega) (by omega) (Nat.le_of_ble_eq_true rfl) (Nat.le_of_ble_eq_true rfl) (Nat.le_of_ble_eq_true rfl) (Nat.le_of_ble_eq_true rfl) dX9_goBy_79 rfl (fun x2041 hx2041 => ?_)
                have rx2041 : -2147483648 ≤ x2041 ∧ x2041 ≤ 30 := by omega
                refine gp_6_6 (n := 85) X (Po0 ro2039) (Posz hsz ro2039) (lay2_P ro2039) kw_1_199 dX9_goBy_82 rfl ?_
                refine G.nm (fun M2042 e2043 => ?_)
                have IM2042 : gI sz M2042 := gI.set IM1952 (rP_6 ro2039).1 (by omega) e2043
                have CM2042 : gC sz M2042 := gC.set CM1952 (rP_6 ro2039).2.1 e2043
                refine g_aload_n (n := 86) X 0 dX9_goBy_85 rfl rfl rfl ?_
                refine gg_9_7 (n := 89) (z := 23) X (by decide) (gsz hsz (by decide)) lay_1 kw_2_120 dX9_goBy_86 rfl (rf_1_7 IM2042 (gsz hsz (by decide))) (by decide) ?_
                refine g_aload_n (n := 90) X 0 dX9_goBy_89 rfl rfl rfl ?_
                refine gg_9_15 (n := 93) (z := v1928) X (by decide) (gsz hsz (by decide)) lay_1 kw_2_138 dX9_goBy_90 rfl ((congrFun (congrFun e2043 _) _).trans ((gset_ne (by omega)).trans ((gFr.at FM1952 rc_1_15.2.2 rfl).trans ((gFr.at FM1949 rc_1_15.2.2 rfl).trans ((gFr.at FM1946 rc_1_15.2.2 rfl).trans ((gFr.at FM1943 rc_1_15.2.2 rfl).trans ((gFr.at FM1940 rc_1_15.2.2 rfl).trans ((gFr.at FM1937 rc_1_15.2.2 rfl).trans ((gFr.at FM1934 rc_1_15.2.2 rfl).trans ((gFr.at FM1931 rc_1_15.2.2 rfl).trans hv1928)))))))))) ?_
                refine g_iload_n (n := 94) X 3 dX9_goBy_93 rfl rfl rfl ?_
                refine g_aload_n (n := 95) X 0 dX9_goBy_94 rfl rfl rfl ?_
                refine gg_9_1 (n := 98) (z := 5) X (by decide) (gsz hsz (by decide)) lay_1 kw_2_106 dX9_goBy_95 rfl (rf_1_1 IM2042 (gsz hsz (by decide))) (by decide) ?_
                refine g_iload_n (n := 99) X 3 dX9_goBy_98 rfl rfl rfl ?_
                refine g_aald6 (n := 100) (t := o2039) X (by decide) (gsz hsz (by decide)) lay_5 (by omega) (by omega) (by decide) (gA5 IM2042 hsz (by omega) (by omega) (by omega)) (by omega) dX9_goBy_99 rfl ?_
                refine g_callVv (n := 103) (As := [gJ v1928, gJ v1951, gA n0 o2039]) (rest := []) (cs1 := 0) (ss1 := 0) X (s_X5_write v1928 (by omega) v1951 (by omega) o2039 ro2039 hsz IM2042 CM2042 ) okX5_write kw_4_236 ⟨kw_4_237, kw_4_238⟩ ⟨rfl, rfl⟩ ⟨Nat.le_of_ble_eq_true rfl, Nat.le_of_ble_eq_true rfl⟩ rfl (by decide) (gsz hsz (by decide)) lay_23 rfl rfl (Nat.le_of_ble_eq_true rfl) ⟨Nat.le_of_ble_eq_true rfl, Nat.le_of_ble_eq_true rfl⟩ rfl rfl dX9_goBy_100 rfl (fun M2045 P2046 => ?_)
                obtain ⟨IM2045, CM2045, FM2045⟩ := P2046
                refine g_iinc (n := 106) (w := v1951 + 1) (L' := [(3, gJ (v1951 + 1)), (0, gA n0 1), (1, gJ a), (2, gJ v2)]) X 3 dX9_goBy_103 rfl rfl (by decide) rfl rfl ?_
                refine g_goto (tgt := 54) X dX9_goBy_106 (by decide) ?_
                refine G.sub (L' := [(0, gA n0 1), (1, gJ a), (2, gJ v2), (3, gJ (v1951 + 1))]) [1, 2, 3, 0] rfl ?_
                exact ih2030 (v1951 + 1) M2045 (by omega) IM2045 CM2045 (gFr.c (gFr.s (gFr.c gFr.rf FM1952 rfl) e2043 (rP_6 ro2039).2.2 rfl) FM2045 rfl) (by omega)
          refine G.sub (L' := [(0, gA n0 1), (1, gJ a), (2, gJ v2), (3, gJ 0)]) [1, 2, 3, 0] rfl ?_
          exact j1953 _ 0 M1949 (by omega) IM1949 CM1949 gFr.rf (Nat.lt_succ_self _)
  refine G.sub (L' := [(0, gA n0 1), (1, gJ a), (2, gJ 0)]) [1, 2, 0] rfl ?_
  exact j4 _ 0 M (by omega) I C gFr.rf (by have h1 := hv1; omega) (Nat.lt_succ_self _)
