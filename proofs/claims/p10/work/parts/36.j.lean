theorem dX12_nextNight_0 : decode cX12_nextNight 0 = .ok (.iconst (-1), 1) := dc_2 (by decide +kernel)
theorem dX12_nextNight_1 : decode cX12_nextNight 1 = .ok (.istore_n 3, 1) := dc_62 (by decide +kernel)
theorem dX12_nextNight_2 : decode cX12_nextNight 2 = .ok (.iconst 0, 1) := dc_3 (by decide +kernel)
theorem dX12_nextNight_3 : decode cX12_nextNight 3 = .ok (.istore 4, 2) := dc_54 4 (by decide +kernel)
theorem dX12_nextNight_5 : decode cX12_nextNight 5 = .ok (.iload 4, 2) := dc_21 4 (by decide +kernel)
theorem dX12_nextNight_7 : decode cX12_nextNight 7 = .ok (.aload_n 0, 1) := dc_42 (by decide +kernel)
theorem dX12_nextNight_8 : decode cX12_nextNight 8 = .ok (.getfield 7, 3) := dc_180 0 7 (by decide +kernel)
theorem dX12_nextNight_11 : decode cX12_nextNight 11 = .ok (.bipush 6, 2) := dc_16 6 6 (by decide +kernel)
theorem dX12_nextNight_13 : decode cX12_nextNight 13 = .ok (.iaload, 1) := dc_46 (by decide +kernel)
theorem dX12_nextNight_14 : decode cX12_nextNight 14 = .ok (.if_icmp .ge 147, 3) := dc_162 0 147 147 (by decide +kernel)
theorem dX12_nextNight_161 : decode cX12_nextNight 161 = .ok (.iload_n 3, 1) := dc_29 (by decide +kernel)
theorem dX12_nextNight_162 : decode cX12_nextNight 162 = .ok (.ireturn, 1) := dc_172 (by decide +kernel)
theorem dX12_nextNight_17 : decode cX12_nextNight 17 = .ok (.iload_n 1, 1) := dc_27 (by decide +kernel)
theorem dX12_nextNight_18 : decode cX12_nextNight 18 = .ok (.aload_n 0, 1) := dc_42 (by decide +kernel)
theorem dX12_nextNight_19 : decode cX12_nextNight 19 = .ok (.getfield 7, 3) := dc_180 0 7 (by decide +kernel)
theorem dX12_nextNight_22 : decode cX12_nextNight 22 = .ok (.sipush 2440, 3) := dc_17 9 136 2440 (by decide +kernel)
theorem dX12_nextNight_25 : decode cX12_nextNight 25 = .ok (.iload 4, 2) := dc_21 4 (by decide +kernel)
theorem dX12_nextNight_27 : decode cX12_nextNight 27 = .ok (.iadd, 1) := dc_96 (by decide +kernel)
theorem dX12_nextNight_28 : decode cX12_nextNight 28 = .ok (.iaload, 1) := dc_46 (by decide +kernel)
theorem dX12_nextNight_29 : decode cX12_nextNight 29 = .ok (.ishr, 1) := dc_122 (by decide +kernel)
theorem dX12_nextNight_30 : decode cX12_nextNight 30 = .ok (.iconst 1, 1) := dc_4 (by decide +kernel)
theorem dX12_nextNight_31 : decode cX12_nextNight 31 = .ok (.iand, 1) := dc_126 (by decide +kernel)
theorem dX12_nextNight_32 : decode cX12_nextNight 32 = .ok (.iconst 1, 1) := dc_4 (by decide +kernel)
theorem dX12_nextNight_33 : decode cX12_nextNight 33 = .ok (.if_icmp .ne 7, 3) := dc_160 0 7 7 (by decide +kernel)
theorem dX12_nextNight_40 : decode cX12_nextNight 40 = .ok (.iconst 0, 1) := dc_3 (by decide +kernel)
theorem dX12_nextNight_41 : decode cX12_nextNight 41 = .ok (.istore 5, 2) := dc_54 5 (by decide +kernel)
theorem dX12_nextNight_43 : decode cX12_nextNight 43 = .ok (.iload_n 2, 1) := dc_28 (by decide +kernel)
theorem dX12_nextNight_44 : decode cX12_nextNight 44 = .ok (.iconst (-1), 1) := dc_2 (by decide +kernel)
theorem dX12_nextNight_45 : decode cX12_nextNight 45 = .ok (.if_icmp .eq 57, 3) := dc_159 0 57 57 (by decide +kernel)
theorem dX12_nextNight_102 : decode cX12_nextNight 102 = .ok (.iconst 1, 1) := dc_4 (by decide +kernel)
theorem dX12_nextNight_103 : decode cX12_nextNight 103 = .ok (.goto 4, 3) := dc_167 0 4 4 (by decide +kernel)
theorem dX12_nextNight_107 : decode cX12_nextNight 107 = .ok (.istore 6, 2) := dc_54 6 (by decide +kernel)
theorem dX12_nextNight_109 : decode cX12_nextNight 109 = .ok (.iload 5, 2) := dc_21 5 (by decide +kernel)
theorem dX12_nextNight_111 : decode cX12_nextNight 111 = .ok (.ifCond .eq 42, 3) := dc_153 0 42 42 (by decide +kernel)
theorem dX12_nextNight_153 : decode cX12_nextNight 153 = .ok (.iload_n 3, 1) := dc_29 (by decide +kernel)
theorem dX12_nextNight_154 : decode cX12_nextNight 154 = .ok (.istore_n 3, 1) := dc_62 (by decide +kernel)
theorem dX12_nextNight_155 : decode cX12_nextNight 155 = .ok (.iinc 4 1, 3) := dc_132 4 1 1 (by decide +kernel)
theorem dX12_nextNight_158 : decode cX12_nextNight 158 = .ok (.goto (-153), 3) := dc_167 255 103 (-153) (by decide +kernel)
theorem dX12_nextNight_48 : decode cX12_nextNight 48 = .ok (.aload_n 0, 1) := dc_42 (by decide +kernel)
theorem dX12_nextNight_49 : decode cX12_nextNight 49 = .ok (.getfield 7, 3) := dc_180 0 7 (by decide +kernel)
theorem dX12_nextNight_52 : decode cX12_nextNight 52 = .ok (.sipush 2520, 3) := dc_17 9 216 2520 (by decide +kernel)
theorem dX12_nextNight_55 : decode cX12_nextNight 55 = .ok (.iload 4, 2) := dc_21 4 (by decide +kernel)
theorem dX12_nextNight_57 : decode cX12_nextNight 57 = .ok (.iadd, 1) := dc_96 (by decide +kernel)
theorem dX12_nextNight_58 : decode cX12_nextNight 58 = .ok (.iaload, 1) := dc_46 (by decide +kernel)
theorem dX12_nextNight_59 : decode cX12_nextNight 59 = .ok (.aload_n 0, 1) := dc_42 (by decide +kernel)
theorem dX12_nextNight_60 : decode cX12_nextNight 60 = .ok (.getfield 7, 3) := dc_180 0 7 (by decide +kernel)
theorem dX12_nextNight_63 : decode cX12_nextNight 63 = .ok (.sipush 2520, 3) := dc_17 9 216 2520 (by decide +kernel)
theorem dX12_nextNight_66 : decode cX12_nextNight 66 = .ok (.iload_n 2, 1) := dc_28 (by decide +kernel)
theorem dX12_nextNight_67 : decode cX12_nextNight 67 = .ok (.iadd, 1) := dc_96 (by decide +kernel)
theorem dX12_nextNight_68 : decode cX12_nextNight 68 = .ok (.iaload, 1) := dc_46 (by decide +kernel)
theorem dX12_nextNight_69 : decode cX12_nextNight 69 = .ok (.if_icmp .gt 33, 3) := dc_163 0 33 33 (by decide +kernel)
theorem dX12_nextNight_72 : decode cX12_nextNight 72 = .ok (.aload_n 0, 1) := dc_42 (by decide +kernel)
theorem dX12_nextNight_73 : decode cX12_nextNight 73 = .ok (.getfield 7, 3) := dc_180 0 7 (by decide +kernel)
theorem dX12_nextNight_76 : decode cX12_nextNight 76 = .ok (.sipush 2520, 3) := dc_17 9 216 2520 (by decide +kernel)
theorem dX12_nextNight_79 : decode cX12_nextNight 79 = .ok (.iload 4, 2) := dc_21 4 (by decide +kernel)
theorem dX12_nextNight_81 : decode cX12_nextNight 81 = .ok (.iadd, 1) := dc_96 (by decide +kernel)
theorem dX12_nextNight_82 : decode cX12_nextNight 82 = .ok (.iaload, 1) := dc_46 (by decide +kernel)
theorem dX12_nextNight_83 : decode cX12_nextNight 83 = .ok (.aload_n 0, 1) := dc_42 (by decide +kernel)
theorem dX12_nextNight_84 : decode cX12_nextNight 84 = .ok (.getfield 7, 3) := dc_180 0 7 (by decide +kernel)
theorem dX12_nextNight_87 : decode cX12_nextNight 87 = .ok (.sipush 2520, 3) := dc_17 9 216 2520 (by decide +kernel)
theorem dX12_nextNight_90 : decode cX12_nextNight 90 = .ok (.iload_n 2, 1) := dc_28 (by decide +kernel)
theorem dX12_nextNight_91 : decode cX12_nextNight 91 = .ok (.iadd, 1) := dc_96 (by decide +kernel)
theorem dX12_nextNight_92 : decode cX12_nextNight 92 = .ok (.iaload, 1) := dc_46 (by decide +kernel)
theorem dX12_nextNight_93 : decode cX12_nextNight 93 = .ok (.if_icmp .ne 13, 3) := dc_160 0 13 13 (by decide +kernel)
theorem dX12_nextNight_106 : decode cX12_nextNight 106 = .ok (.iconst 0, 1) := dc_3 (by decide +kernel)
theorem dX12_nextNight_96 : decode cX12_nextNight 96 = .ok (.iload 4, 2) := dc_21 4 (by decide +kernel)
theorem dX12_nextNight_98 : decode cX12_nextNight 98 = .ok (.iload_n 2, 1) := dc_28 (by decide +kernel)
theorem dX12_nextNight_99 : decode cX12_nextNight 99 = .ok (.if_icmp .le 7, 3) := dc_164 0 7 7 (by decide +kernel)
theorem dX12_nextNight_36 : decode cX12_nextNight 36 = .ok (.iconst 1, 1) := dc_4 (by decide +kernel)
theorem dX12_nextNight_37 : decode cX12_nextNight 37 = .ok (.goto 4, 3) := dc_167 0 4 4 (by decide +kernel)
theorem dX12_nextNight_114 : decode cX12_nextNight 114 = .ok (.iload 6, 2) := dc_21 6 (by decide +kernel)
theorem dX12_nextNight_116 : decode cX12_nextNight 116 = .ok (.ifCond .eq 37, 3) := dc_153 0 37 37 (by decide +kernel)
theorem dX12_nextNight_119 : decode cX12_nextNight 119 = .ok (.iload_n 3, 1) := dc_29 (by decide +kernel)
theorem dX12_nextNight_120 : decode cX12_nextNight 120 = .ok (.iconst (-1), 1) := dc_2 (by decide +kernel)
theorem dX12_nextNight_121 : decode cX12_nextNight 121 = .ok (.if_icmp .eq 27, 3) := dc_159 0 27 27 (by decide +kernel)
theorem dX12_nextNight_148 : decode cX12_nextNight 148 = .ok (.iload 4, 2) := dc_21 4 (by decide +kernel)
theorem dX12_nextNight_150 : decode cX12_nextNight 150 = .ok (.goto 4, 3) := dc_167 0 4 4 (by decide +kernel)
theorem dX12_nextNight_124 : decode cX12_nextNight 124 = .ok (.aload_n 0, 1) := dc_42 (by decide +kernel)
theorem dX12_nextNight_125 : decode cX12_nextNight 125 = .ok (.getfield 7, 3) := dc_180 0 7 (by decide +kernel)
theorem dX12_nextNight_128 : decode cX12_nextNight 128 = .ok (.sipush 2520, 3) := dc_17 9 216 2520 (by decide +kernel)
theorem dX12_nextNight_131 : decode cX12_nextNight 131 = .ok (.iload 4, 2) := dc_21 4 (by decide +kernel)
theorem dX12_nextNight_133 : decode cX12_nextNight 133 = .ok (.iadd, 1) := dc_96 (by decide +kernel)
theorem dX12_nextNight_134 : decode cX12_nextNight 134 = .ok (.iaload, 1) := dc_46 (by decide +kernel)
theorem dX12_nextNight_135 : decode cX12_nextNight 135 = .ok (.aload_n 0, 1) := dc_42 (by decide +kernel)
theorem dX12_nextNight_136 : decode cX12_nextNight 136 = .ok (.getfield 7, 3) := dc_180 0 7 (by decide +kernel)
theorem dX12_nextNight_139 : decode cX12_nextNight 139 = .ok (.sipush 2520, 3) := dc_17 9 216 2520 (by decide +kernel)
theorem dX12_nextNight_142 : decode cX12_nextNight 142 = .ok (.iload_n 3, 1) := dc_29 (by decide +kernel)
theorem dX12_nextNight_143 : decode cX12_nextNight 143 = .ok (.iadd, 1) := dc_96 (by decide +kernel)
theorem dX12_nextNight_144 : decode cX12_nextNight 144 = .ok (.iaload, 1) := dc_46 (by decide +kernel)
theorem dX12_nextNight_145 : decode cX12_nextNight 145 = .ok (.if_icmp .ge 8, 3) := dc_162 0 8 8 (by decide +kernel)
abbrev R_X12_nextNight : Room := { frames := 0, cells := 0, slots := 0, locals := 0 }
set_option maxRecDepth 100000 in
set_option maxHeartbeats 4000000 in
theorem s_X12_nextNight {l : Launch} {n0 : Nat} {D : va_G} {cA : Nat → ClassId} {M : gM} (a : Int) (r_a : -2147483648 ≤ a ∧ a ≤ 2147483647) (b : Int) (r_b : -1 ≤ b ∧ b ≤ 39) {sz : Nat} (hsz : 206 ≤ sz) (I : gI sz M) (C : gC sz M)   : Met l yX12_nextNight (gWsOf yX12_nextNight cX12_nextNight 7 (Option.some Jvm.ClassFile.FieldType.int)) R_X12_nextNight (gPc n0 D cA [gA n0 190, gJ a, gJ b] M sz) (gQi n0 D cA sz (fun z M1 => M = M1 ∧ (-1 ≤ z ∧ z ≤ 39) ∧ (z = -1 ∨ b = -1 ∨ (M 191 (b + 2520) * 40 + b) < (M 191 (z + 2520) * 40 + z)))) 0 0 (fun q => n0 ≤ q) := by
  refine gMetI [gA n0 190, gJ a, gJ b] (by decide) (Nat.le_of_ble_eq_true rfl) ⟨rfl, rfl⟩ ?_
  intro p e s m args below meth cd Q X hq
  have X : gCx p s m args meth cd n0 D cA "ParishUnionModel" cX12_nextNight 7 := X
  show G p l e R_X12_nextNight s m args below meth cd n0 D cA 7 Q 0 0 M sz 0 [(0, gA n0 190), (1, gJ a), (2, gJ b)] []
  refine g_iconst (n := 1) X dX12_nextNight_0 rfl ?_
  refine g_istore_n (n := 2) (L' := [(3, gJ (-1)), (0, gA n0 190), (1, gJ a), (2, gJ b)]) X dX12_nextNight_1 rfl (by decide) rfl rfl ?_
  refine g_iconst (n := 3) X dX12_nextNight_2 rfl ?_
  refine g_istore (n := 5) (L' := [(4, gJ 0), (3, gJ (-1)), (0, gA n0 190), (1, gJ a), (2, gJ b)]) X dX12_nextNight_3 (by decide) rfl rfl ?_
  have j4 : ∀ (N429 : Nat) (v1 v2 : Int) , (-1 ≤ v1 ∧ v1 ≤ 39) → (0 ≤ v2 ∧ v2 ≤ 40) → (v1 = -1 ∨ (0 ≤ v1 ∧ v1 < v2 ∧ (b = -1 ∨ (M 191 (b + 2520) * 40 + b) < (M 191 (v1 + 2520) * 40 + v1)))) → (40 - v2).toNat < N429 → G p l e R_X12_nextNight s m args below meth cd n0 D cA 7 Q 0 0 M sz 5 [(0, gA n0 190), (1, gJ a), (2, gJ b), (3, gJ v1), (4, gJ v2)] [] := by
    intro N429; induction N429 with
    | zero => intro v1 v2 rv1 rv2 hk hm431; exfalso; omega
    | succ N429 ih430 =>
      intro v1 v2 rv1 rv2 hk hm431
      refine g_iload (n := 7) X 4 dX12_nextNight_5 rfl rfl ?_
      refine g_aload_n (n := 8) X 0 dX12_nextNight_7 rfl rfl rfl ?_
      refine gg_12_1 (n := 11) (z := 191) X (by decide) (gsz hsz (by decide)) lay_190 kw_6_27 dX12_nextNight_8 rfl (rf_190_1 I (gsz hsz (by decide))) (by decide) ?_
      refine g_bipush (n := 13) X dX12_nextNight_11 (by decide +kernel) rfl ?_
      obtain ⟨v432, hv432, rv432⟩ := gRd I (by decide) (gsz hsz (by decide)) (rs_NN (k := 6) (by omega)).1
      refine g_iald2 (n := 14) (v := v432) X (by decide) (gsz hsz (by decide)) lay_191 (by omega) (by omega) (by decide) dX12_nextNight_13 rfl hv432 ?_
      refine g_icmp_ge (n := 17) (tgt := 161) X dX12_nextNight_14 (by decide) (by omega) (by omega) rfl (fun c433 => ?_) (fun c433 => ?_)
      · refine g_iload_n (n := 162) X 3 dX12_nextNight_161 rfl rfl rfl ?_
        exact hq _ _ _ _ dX12_nextNight_162 ⟨rfl, by omega, by omega⟩
      · refine g_iload_n (n := 18) X 1 dX12_nextNight_17 rfl rfl rfl ?_
        refine g_aload_n (n := 19) X 0 dX12_nextNight_18 rfl rfl rfl ?_
        refine gg_12_1 (n := 22) (z := 191) X (by decide) (gsz hsz (by decide)) lay_190 kw_6_27 dX12_nextNight_19 rfl (rf_190_1 I (gsz hsz (by decide))) (by decide) ?_
        refine g_sipush (n := 25) X dX12_nextNight_22 (by decide +kernel) rfl ?_
        refine g_iload (n := 27) X 4 dX12_nextNight_25 rfl rfl ?_
        refine g_iadd (n := 28) (z := v2 + 2440) X dX12_nextNight_27 (by omega) rfl ?_
        obtain ⟨v434, hv434, rv434⟩ := gRd I (by decide) (gsz hsz (by decide)) (rs_NNAME (k := v2 + 2440) (by omega)).1
        refine g_iald2 (n := 29) (v := v434) X (by decide) (gsz hsz (by decide)) lay_191 (by omega) (by omega) (by decide) dX12_nextNight_28 rfl hv434 ?_
        refine g_ishrA (n := 30) X dX12_nextNight_29 rfl (fun v435 rv435 xv435 => ?_)
        clear xv435
        refine g_iconst (n := 31) X dX12_nextNight_30 rfl ?_
        refine g_iandC (n := 32) X dX12_nextNight_31 (by decide) rfl (fun v436 rv436 xv436 => ?_)
        clear xv436
        refine g_iconst (n := 33) X dX12_nextNight_32 rfl ?_
        refine g_icmp_ne (n := 36) (tgt := 40) X dX12_nextNight_33 (by decide) (by omega) (by omega) rfl (fun c437 => ?_) (fun c437 => ?_)
        · refine g_iconst (n := 41) X dX12_nextNight_40 rfl ?_
          refine g_istore (n := 43) (L' := [(5, gJ 0), (0, gA n0 190), (1, gJ a), (2, gJ b), (3, gJ v1), (4, gJ v2)]) X dX12_nextNight_41 (by decide) rfl rfl ?_
          refine g_iload_n (n := 44) X 3 dX12_nextNight_43 rfl rfl rfl ?_
          refine g_iconst (n := 45) X dX12_nextNight_44 rfl ?_
          refine g_icmp_eq (n := 48) (tgt := 102) X dX12_nextNight_45 (by decide) (by omega) (by omega) rfl (fun c438 => ?_) (fun c438 => ?_)
          · refine g_iconst (n := 103) X dX12_nextNight_102 rfl ?_
            refine g_goto (tgt := 107) X dX12_nextNight_103 (by decide) ?_
            refine g_istore (n := 109) (L' := [(6, gJ 1), (5, gJ 0), (0, gA n0 190), (1, gJ a), (2, gJ b), (3, gJ v1), (4, gJ v2)]) X dX12_nextNight_107 (by decide) rfl rfl ?_
            refine g_iload (n := 111) X 1 dX12_nextNight_109 rfl rfl ?_
            refine g_if_eq (n := 114) (tgt := 153) X dX12_nextNight_111 (by decide) (by omega) rfl (fun c439 => ?_) (fun c439 => by exfalso; omega)
            refine g_iload_n (n := 154) X 5 dX12_nextNight_153 rfl rfl rfl ?_
            refine g_istore_n (n := 155) (L' := [(3, gJ v1), (6, gJ 1), (5, gJ 0), (0, gA n0 190), (1, gJ a), (2, gJ b), (4, gJ v2)]) X dX12_nextNight_154 rfl (by decide) rfl rfl ?_
            refine g_iinc (n := 158) (w := v2 + 1) (L' := [(4, gJ (v2 + 1)), (3, gJ v1), (6, gJ 1), (5, gJ 0), (0, gA n0 190), (1, gJ a), (2, gJ b)]) X 6 dX12_nextNight_155 rfl rfl (by decide) rfl rfl ?_
            refine g_goto (tgt := 5) X dX12_nextNight_158 (by decide) ?_
            refine G.sub (L' := [(0, gA n0 190), (1, gJ a), (2, gJ b), (3, gJ v1), (4, gJ (v2 + 1))]) [4, 5, 6, 1, 0] rfl ?_
            exact ih430 v1 (v2 + 1) (by omega) (by omega) (by omega) (by omega)
          · refine g_aload_n (n := 49) X 1 dX12_nextNight_48 rfl rfl rfl ?_
            refine gg_12_1 (n := 52) (z := 191) X (by decide) (gsz hsz (by decide)) lay_190 kw_6_27 dX12_nextNight_49 rfl (rf_190_1 I (gsz hsz (by decide))) (by decide) ?_
            refine g_sipush (n := 55) X dX12_nextNight_52 (by decide +kernel) rfl ?_
            refine g_iload (n := 57) X 5 dX12_nextNight_55 rfl rfl ?_
            refine g_iadd (n := 58) (z := v2 + 2520) X dX12_nextNight_57 (by omega) rfl ?_
            obtain ⟨v440, hv440, rv440⟩ := gRd I (by decide) (gsz hsz (by decide)) (rs_NWEEK (k := v2 + 2520) (by omega)).1
            refine g_iald2 (n := 59) (v := v440) X (by decide) (gsz hsz (by decide)) lay_191 (by omega) (by omega) (by decide) dX12_nextNight_58 rfl hv440 ?_
            refine g_aload_n (n := 60) X 1 dX12_nextNight_59 rfl rfl rfl ?_
            refine gg_12_1 (n := 63) (z := 191) X (by decide) (gsz hsz (by decide)) lay_190 kw_6_27 dX12_nextNight_60 rfl (rf_190_1 I (gsz hsz (by decide))) (by decide) ?_
            refine g_sipush (n := 66) X dX12_nextNight_63 (by decide +kernel) rfl ?_
            refine g_iload_n (n := 67) X 3 dX12_nextNight_66 rfl rfl rfl ?_
            refine g_iadd (n := 68) (z := b + 2520) X dX12_nextNight_67 (by omega) rfl ?_
            obtain ⟨v441, hv441, rv441⟩ := gRd I (by decide) (gsz hsz (by decide)) (rs_NWEEK (k := b + 2520) (by omega)).1
            refine g_iald2 (n := 69) (v := v441) X (by decide) (gsz hsz (by decide)) lay_191 (by omega) (by omega) (by decide) dX12_nextNight_68 rfl hv441 ?_
            refine g_icmp_gt (n := 72) (tgt := 102) X dX12_nextNight_69 (by decide) (by omega) (by omega) rfl (fun c442 => ?_) (fun c442 => ?_)
            · refine g_iconst (n := 103) X dX12_nextNight_102 rfl ?_
              refine g_goto (tgt := 107) X dX12_nextNight_103 (by decide) ?_
              refine g_istore (n := 109) (L' := [(6, gJ 1), (5, gJ 0), (0, gA n0 190), (1, gJ a), (2, gJ b), (3, gJ v1), (4, gJ v2)]) X dX12_nextNight_107 (by decide) rfl rfl ?_
              refine g_iload (n := 111) X 1 dX12_nextNight_109 rfl rfl ?_
              refine g_if_eq (n := 114) (tgt := 153) X dX12_nextNight_111 (by decide) (by omega) rfl (fun c443 => ?_) (fun c443 => by exfalso; omega)
              refine g_iload_n (n := 154) X 5 dX12_nextNight_153 rfl rfl rfl ?_
              refine g_istore_n (n := 155) (L' := [(3, gJ v1), (6, gJ 1), (5, gJ 0), (0, gA n0 190), (1, gJ a), (2, gJ b), (4, gJ v2)]) X dX12_nextNight_154 rfl (by decide) rfl rfl ?_
              refine g_iinc (n := 158) (w := v2 + 1) (L' := [(4, gJ (v2 + 1)), (3, gJ v1), (6, gJ 1), (5, gJ 0), (0, gA n0 190), (1, gJ a), (2, gJ b)]) X 6 dX12_nextNight_155 rfl rfl (by decide) rfl rfl ?_
              refine g_goto (tgt := 5) X dX12_nextNight_158 (by decide) ?_
              refine G.sub (L' := [(0, gA n0 190), (1, gJ a), (2, gJ b), (3, gJ v1), (4, gJ (v2 + 1))]) [4, 5, 6, 1, 0] rfl ?_
              exact ih430 v1 (v2 + 1) (by omega) (by omega) (by omega) (by omega)
            · refine g_aload_n (n := 73) X 1 dX12_nextNight_72 rfl rfl rfl ?_
              refine gg_12_1 (n := 76) (z := 191) X (by decide) (gsz hsz (by decide)) lay_190 kw_6_27 dX12_nextNight_73 rfl (rf_190_1 I (gsz hsz (by decide))) (by decide) ?_
              refine g_sipush (n := 79) X dX12_nextNight_76 (by decide +kernel) rfl ?_
              refine g_iload (n := 81) X 5 dX12_nextNight_79 rfl rfl ?_
              refine g_iadd (n := 82) (z := v2 + 2520) X dX12_nextNight_81 (by omega) rfl ?_
              refine g_iald2 (n := 83) (v := v440) X (by decide) (gsz hsz (by decide)) lay_191 (by omega) (by omega) (by decide) dX12_nextNight_82 rfl hv440 ?_
              refine g_aload_n (n := 84) X 1 dX12_nextNight_83 rfl rfl rfl ?_
              refine gg_12_1 (n := 87) (z := 191) X (by decide) (gsz hsz (by decide)) lay_190 kw_6_27 dX12_nextNight_84 rfl (rf_190_1 I (gsz hsz (by decide))) (by decide) ?_
              refine g_sipush (n := 90) X dX12_nextNight_87 (by decide +kernel) rfl ?_
              refine g_iload_n (n := 91) X 3 dX12_nextNight_90 rfl rfl rfl ?_
              refine g_iadd (n := 92) (z := b + 2520) X dX12_nextNight_91 (by omega) rfl ?_
              refine g_iald2 (n := 93) (v := v441) X (by decide) (gsz hsz (by decide)) lay_191 (by omega) (by omega) (by decide) dX12_nextNight_92 rfl hv441 ?_
              refine g_icmp_ne (n := 96) (tgt := 106) X dX12_nextNight_93 (by decide) (by omega) (by omega) rfl (fun c444 => ?_) (fun c444 => ?_)
              · refine g_iconst (n := 107) X dX12_nextNight_106 rfl ?_
                refine g_istore (n := 109) (L' := [(6, gJ 0), (5, gJ 0), (0, gA n0 190), (1, gJ a), (2, gJ b), (3, gJ v1), (4, gJ v2)]) X dX12_nextNight_107 (by decide) rfl rfl ?_
                refine g_iload (n := 111) X 1 dX12_nextNight_109 rfl rfl ?_
                refine g_if_eq (n := 114) (tgt := 153) X dX12_nextNight_111 (by decide) (by omega) rfl (fun c445 => ?_) (fun c445 => by exfalso; omega)
                refine g_iload_n (n := 154) X 5 dX12_nextNight_153 rfl rfl rfl ?_
                refine g_istore_n (n := 155) (L' := [(3, gJ v1), (6, gJ 0), (5, gJ 0), (0, gA n0 190), (1, gJ a), (2, gJ b), (4, gJ v2)]) X dX12_nextNight_154 rfl (by decide) rfl rfl ?_
                refine g_iinc (n := 158) (w := v2 + 1) (L' := [(4, gJ (v2 + 1)), (3, gJ v1), (6, gJ 0), (5, gJ 0), (0, gA n0 190), (1, gJ a), (2, gJ b)]) X 6 dX12_nextNight_155 rfl rfl (by decide) rfl rfl ?_
                refine g_goto (tgt := 5) X dX12_nextNight_158 (by decide) ?_
                refine G.sub (L' := [(0, gA n0 190), (1, gJ a), (2, gJ b), (3, gJ v1), (4, gJ (v2 + 1))]) [4, 5, 6, 1, 0] rfl ?_
                exact ih430 v1 (v2 + 1) (by omega) (by omega) (by omega) (by omega)
              · refine g_iload (n := 98) X 5 dX12_nextNight_96 rfl rfl ?_
                refine g_iload_n (n := 99) X 3 dX12_nextNight_98 rfl rfl rfl ?_
                refine g_icmp_le (n := 102) (tgt := 106) X dX12_nextNight_99 (by decide) (by omega) (by omega) rfl (fun c446 => ?_) (fun c446 => ?_)
                · refine g_iconst (n := 107) X dX12_nextNight_106 rfl ?_
                  refine g_istore (n := 109) (L' := [(6, gJ 0), (5, gJ 0), (0, gA n0 190), (1, gJ a), (2, gJ b), (3, gJ v1), (4, gJ v2)]) X dX12_nextNight_107 (by decide) rfl rfl ?_
                  refine g_iload (n := 111) X 1 dX12_nextNight_109 rfl rfl ?_
                  refine g_if_eq (n := 114) (tgt := 153) X dX12_nextNight_111 (by decide) (by omega) rfl (fun c447 => ?_) (fun c447 => by exfalso; omega)
                  refine g_iload_n (n := 154) X 5 dX12_nextNight_153 rfl rfl rfl ?_
                  refine g_istore_n (n := 155) (L' := [(3, gJ v1), (6, gJ 0), (5, gJ 0), (0, gA n0 190), (1, gJ a), (2, gJ b), (4, gJ v2)]) X dX12_nextNight_154 rfl (by decide) rfl rfl ?_
                  refine g_iinc (n := 158) (w := v2 + 1) (L' := [(4, gJ (v2 + 1)), (3, gJ v1), (6, gJ 0), (5, gJ 0), (0, gA n0 190), (1, gJ a), (2, gJ b)]) X 6 dX12_nextNight_155 rfl rfl (by decide) rfl rfl ?_
                  refine g_goto (tgt := 5) X dX12_nextNight_158 (by decide) ?_
                  refine G.sub (L' := [(0, gA n0 190), (1, gJ a), (2, gJ b), (3, gJ v1), (4, gJ (v2 + 1))]) [4, 5, 6, 1, 0] rfl ?_
                  exact ih430 v1 (v2 + 1) (by omega) (by omega) (by omega) (by omega)
                · refine g_iconst (n := 103) X dX12_nextNight_102 rfl ?_
                  refine g_goto (tgt := 107) X dX12_nextNight_103 (by decide) ?_
                  refine g_istore (n := 109) (L' := [(6, gJ 1), (5, gJ 0), (0, gA n0 190), (1, gJ a), (2, gJ b), (3, gJ v1), (4, gJ v2)]) X dX12_nextNight_107 (by decide) rfl rfl ?_
                  refine g_iload (n := 111) X 1 dX12_nextNight_109 rfl rfl ?_
                  refine g_if_eq (n := 114) (tgt := 153) X dX12_nextNight_111 (by decide) (by omega) rfl (fun c448 => ?_) (fun c448 => by exfalso; omega)
                  refine g_iload_n (n := 154) X 5 dX12_nextNight_153 rfl rfl rfl ?_
                  refine g_istore_n (n := 155) (L' := [(3, gJ v1), (6, gJ 1), (5, gJ 0), (0, gA n0 190), (1, gJ a), (2, gJ b), (4, gJ v2)]) X dX12_nextNight_154 rfl (by decide) rfl rfl ?_
                  refine g_iinc (n := 158) (w := v2 + 1) (L' := [(4, gJ (v2 + 1)), (3, gJ v1), (6, gJ 1), (5, gJ 0), (0, gA n0 190), (1, gJ a), (2, gJ b)]) X 6 dX12_nextNight_155 rfl rfl (by decide) rfl rfl ?_
                  refine g_goto (tgt := 5) X dX12_nextNight_158 (by decide) ?_
                  refine G.sub (L' := [(0, gA n0 190), (1, gJ a), (2, gJ b), (3, gJ v1), (4, gJ (v2 + 1))]) [4, 5, 6, 1, 0] rfl ?_
                  exact ih430 v1 (v2 + 1) (by omega) (by omega) (by omega) (by omega)
        · refine g_iconst (n := 37) X dX12_nextNight_36 rfl ?_
          refine g_goto (tgt := 41) X dX12_nextNight_37 (by decide) ?_
          refine g_istore (n := 43) (L' := [(5, gJ 1), (0, gA n0 190), (1, gJ a), (2, gJ b), (3, gJ v1), (4, gJ v2)]) X dX12_nextNight_41 (by decide) rfl rfl ?_
          refine g_iload_n (n := 44) X 3 dX12_nextNight_43 rfl rfl rfl ?_
          refine g_iconst (n := 45) X dX12_nextNight_44 rfl ?_
          refine g_icmp_eq (n := 48) (tgt := 102) X dX12_nextNight_45 (by decide) (by omega) (by omega) rfl (fun c449 => ?_) (fun c449 => ?_)
          · refine g_iconst (n := 103) X dX12_nextNight_102 rfl ?_
            refine g_goto (tgt := 107) X dX12_nextNight_103 (by decide) ?_
            refine g_istore (n := 109) (L' := [(6, gJ 1), (5, gJ 1), (0, gA n0 190), (1, gJ a), (2, gJ b), (3, gJ v1), (4, gJ v2)]) X dX12_nextNight_107 (by decide) rfl rfl ?_
            refine g_iload (n := 111) X 1 dX12_nextNight_109 rfl rfl ?_
            refine g_if_eq (n := 114) (tgt := 153) X dX12_nextNight_111 (by decide) (by omega) rfl (fun c450 => by exfalso; omega) (fun c450 => ?_)
            refine g_iload (n := 116) X 0 dX12_nextNight_114 rfl rfl ?_
            refine g_if_eq (n := 119) (tgt := 153) X dX12_nextNight_116 (by decide) (by omega) rfl (fun c451 => by exfalso; omega) (fun c451 => ?_)
            refine g_iload_n (n := 120) X 5 dX12_nextNight_119 rfl rfl rfl ?_
            refine g_iconst (n := 121) X dX12_nextNight_120 rfl ?_
            refine g_icmp_eq (n := 124) (tgt := 148) X dX12_nextNight_121 (by decide) (by omega) (by omega) rfl (fun c452 => ?_) (fun c452 => ?_)
            · refine g_iload (n := 150) X 6 dX12_nextNight_148 rfl rfl ?_
              refine g_goto (tgt := 154) X dX12_nextNight_150 (by decide) ?_
              refine g_istore_n (n := 155) (L' := [(3, gJ v2), (6, gJ 1), (5, gJ 1), (0, gA n0 190), (1, gJ a), (2, gJ b), (4, gJ v2)]) X dX12_nextNight_154 rfl (by decide) rfl rfl ?_
              refine g_iinc (n := 158) (w := v2 + 1) (L' := [(4, gJ (v2 + 1)), (3, gJ v2), (6, gJ 1), (5, gJ 1), (0, gA n0 190), (1, gJ a), (2, gJ b)]) X 6 dX12_nextNight_155 rfl rfl (by decide) rfl rfl ?_
              refine g_goto (tgt := 5) X dX12_nextNight_158 (by decide) ?_
              refine G.sub (L' := [(0, gA n0 190), (1, gJ a), (2, gJ b), (3, gJ v2), (4, gJ (v2 + 1))]) [4, 5, 6, 1, 0] rfl ?_
              exact ih430 v2 (v2 + 1) (by omega) (by omega) (by omega) (by omega)
            · refine g_aload_n (n := 125) X 2 dX12_nextNight_124 rfl rfl rfl ?_
              refine gg_12_1 (n := 128) (z := 191) X (by decide) (gsz hsz (by decide)) lay_190 kw_6_27 dX12_nextNight_125 rfl (rf_190_1 I (gsz hsz (by decide))) (by decide) ?_
              refine g_sipush (n := 131) X dX12_nextNight_128 (by decide +kernel) rfl ?_
              refine g_iload (n := 133) X 6 dX12_nextNight_131 rfl rfl ?_
              refine g_iadd (n := 134) (z := v2 + 2520) X dX12_nextNight_133 (by omega) rfl ?_
              obtain ⟨v453, hv453, rv453⟩ := gRd I (by decide) (gsz hsz (by decide)) (rs_NWEEK (k := v2 + 2520) (by omega)).1
              refine g_iald2 (n := 135) (v := v453) X (by decide) (gsz hsz (by decide)) lay_191 (by omega) (by omega) (by decide) dX12_nextNight_134 rfl hv453 ?_
              refine g_aload_n (n := 136) X 2 dX12_nextNight_135 rfl rfl rfl ?_
              refine gg_12_1 (n := 139) (z := 191) X (by decide) (gsz hsz (by decide)) lay_190 kw_6_27 dX12_nextNight_136 rfl (rf_190_1 I (gsz hsz (by decide))) (by decide) ?_
              refine g_sipush (n := 142) X dX12_nextNight_139 (by decide +kernel) rfl ?_
              refine g_iload_n (n := 143) X 5 dX12_nextNight_142 rfl rfl rfl ?_
              refine g_iadd (n := 144) (z := v1 + 2520) X dX12_nextNight_143 (by omega) rfl ?_
              obtain ⟨v454, hv454, rv454⟩ := gRd I (by decide) (gsz hsz (by decide)) (rs_NWEEK (k := v1 + 2520) (by omega)).1
              refine g_iald2 (n := 145) (v := v454) X (by decide) (gsz hsz (by decide)) lay_191 (by omega) (by omega) (by decide) dX12_nextNight_144 rfl hv454 ?_
              refine g_icmp_ge (n := 148) (tgt := 153) X dX12_nextNight_145 (by decide) (by omega) (by omega) rfl (fun c455 => ?_) (fun c455 => ?_)
              · refine g_iload_n (n := 154) X 5 dX12_nextNight_153 rfl rfl rfl ?_
                refine g_istore_n (n := 155) (L' := [(3, gJ v1), (6, gJ 1), (5, gJ 1), (0, gA n0 190), (1, gJ a), (2, gJ b), (4, gJ v2)]) X dX12_nextNight_154 rfl (by decide) rfl rfl ?_
                refine g_iinc (n := 158) (w := v2 + 1) (L' := [(4, gJ (v2 + 1)), (3, gJ v1), (6, gJ 1), (5, gJ 1), (0, gA n0 190), (1, gJ a), (2, gJ b)]) X 6 dX12_nextNight_155 rfl rfl (by decide) rfl rfl ?_
                refine g_goto (tgt := 5) X dX12_nextNight_158 (by decide) ?_
                refine G.sub (L' := [(0, gA n0 190), (1, gJ a), (2, gJ b), (3, gJ v1), (4, gJ (v2 + 1))]) [4, 5, 6, 1, 0] rfl ?_
                exact ih430 v1 (v2 + 1) (by omega) (by omega) (by omega) (by omega)
              · refine g_iload (n := 150) X 6 dX12_nextNight_148 rfl rfl ?_
                refine g_goto (tgt := 154) X dX12_nextNight_150 (by decide) ?_
                refine g_istore_n (n := 155) (L' := [(3, gJ v2), (6, gJ 1), (5, gJ 1), (0, gA n0 190), (1, gJ a), (2, gJ b), (4, gJ v2)]) X dX12_nextNight_154 rfl (by decide) rfl rfl ?_
                refine g_iinc (n := 158) (w := v2 + 1) (L' := [(4, gJ (v2 + 1)), (3, gJ v2), (6, gJ 1), (5, gJ 1), (0, gA n0 190), (1, gJ a), (2, gJ b)]) X 6 dX12_nextNight_155 rfl rfl (by decide) rfl rfl ?_
                refine g_goto (tgt := 5) X dX12_nextNight_158 (by decide) ?_
                refine G.sub (L' := [(0, gA n0 190), (1, gJ a), (2, gJ b), (3, gJ v2), (4, gJ (v2 + 1))]) [4, 5, 6, 1, 0] rfl ?_
                exact ih430 v2 (v2 + 1) (by omega) (by omega) (by omega) (by omega)
          · refine g_aload_n (n := 49) X 1 dX12_nextNight_48 rfl rfl rfl ?_
            refine gg_12_1 (n := 52) (z := 191) X (by decide) (gsz hsz (by decide)) lay_190 kw_6_27 dX12_nextNight_49 rfl (rf_190_1 I (gsz hsz (by decide))) (by decide) ?_
            refine g_sipush (n := 55) X dX12_nextNight_52 (by decide +kernel) rfl ?_
            refine g_iload (n := 57) X 5 dX12_nextNight_55 rfl rfl ?_
            refine g_iadd (n := 58) (z := v2 + 2520) X dX12_nextNight_57 (by omega) rfl ?_
            obtain ⟨v456, hv456, rv456⟩ := gRd I (by decide) (gsz hsz (by decide)) (rs_NWEEK (k := v2 + 2520) (by omega)).1
            refine g_iald2 (n := 59) (v := v456) X (by decide) (gsz hsz (by decide)) lay_191 (by omega) (by omega) (by decide) dX12_nextNight_58 rfl hv456 ?_
            refine g_aload_n (n := 60) X 1 dX12_nextNight_59 rfl rfl rfl ?_
            refine gg_12_1 (n := 63) (z := 191) X (by decide) (gsz hsz (by decide)) lay_190 kw_6_27 dX12_nextNight_60 rfl (rf_190_1 I (gsz hsz (by decide))) (by decide) ?_
            refine g_sipush (n := 66) X dX12_nextNight_63 (by decide +kernel) rfl ?_
            refine g_iload_n (n := 67) X 3 dX12_nextNight_66 rfl rfl rfl ?_
            refine g_iadd (n := 68) (z := b + 2520) X dX12_nextNight_67 (by omega) rfl ?_
            obtain ⟨v457, hv457, rv457⟩ := gRd I (by decide) (gsz hsz (by decide)) (rs_NWEEK (k := b + 2520) (by omega)).1
            refine g_iald2 (n := 69) (v := v457) X (by decide) (gsz hsz (by decide)) lay_191 (by omega) (by omega) (by decide) dX12_nextNight_68 rfl hv457 ?_
            refine g_icmp_gt (n := 72) (tgt := 102) X dX12_nextNight_69 (by decide) (by omega) (by omega) rfl (fun c458 => ?_) (fun c458 => ?_)
            · refine g_iconst (n := 103) X dX12_nextNight_102 rfl ?_
              refine g_goto (tgt := 107) X dX12_nextNight_103 (by decide) ?_
              refine g_istore (n := 109) (L' := [(6, gJ 1), (5, gJ 1), (0, gA n0 190), (1, gJ a), (2, gJ b), (3, gJ v1), (4, gJ v2)]) X dX12_nextNight_107 (by decide) rfl rfl ?_
              refine g_iload (n := 111) X 1 dX12_nextNight_109 rfl rfl ?_
              refine g_if_eq (n := 114) (tgt := 153) X dX12_nextNight_111 (by decide) (by omega) rfl (fun c459 => by exfalso; omega) (fun c459 => ?_)
              refine g_iload (n := 116) X 0 dX12_nextNight_114 rfl rfl ?_
              refine g_if_eq (n := 119) (tgt := 153) X dX12_nextNight_116 (by decide) (by omega) rfl (fun c460 => by exfalso; omega) (fun c460 => ?_)
              refine g_iload_n (n := 120) X 5 dX12_nextNight_119 rfl rfl rfl ?_
              refine g_iconst (n := 121) X dX12_nextNight_120 rfl ?_
              refine g_icmp_eq (n := 124) (tgt := 148) X dX12_nextNight_121 (by decide) (by omega) (by omega) rfl (fun c461 => ?_) (fun c461 => ?_)
              · refine g_iload (n := 150) X 6 dX12_nextNight_148 rfl rfl ?_
                refine g_goto (tgt := 154) X dX12_nextNight_150 (by decide) ?_
                refine g_istore_n (n := 155) (L' := [(3, gJ v2), (6, gJ 1), (5, gJ 1), (0, gA n0 190), (1, gJ a), (2, gJ b), (4, gJ v2)]) X dX12_nextNight_154 rfl (by decide) rfl rfl ?_
                refine g_iinc (n := 158) (w := v2 + 1) (L' := [(4, gJ (v2 + 1)), (3, gJ v2), (6, gJ 1), (5, gJ 1), (0, gA n0 190), (1, gJ a), (2, gJ b)]) X 6 dX12_nextNight_155 rfl rfl (by decide) rfl rfl ?_
                refine g_goto (tgt := 5) X dX12_nextNight_158 (by decide) ?_
                refine G.sub (L' := [(0, gA n0 190), (1, gJ a), (2, gJ b), (3, gJ v2), (4, gJ (v2 + 1))]) [4, 5, 6, 1, 0] rfl ?_
                exact ih430 v2 (v2 + 1) (by omega) (by omega) (by omega) (by omega)
              · refine g_aload_n (n := 125) X 2 dX12_nextNight_124 rfl rfl rfl ?_
                refine gg_12_1 (n := 128) (z := 191) X (by decide) (gsz hsz (by decide)) lay_190 kw_6_27 dX12_nextNight_125 rfl (rf_190_1 I (gsz hsz (by decide))) (by decide) ?_
                refine g_sipush (n := 131) X dX12_nextNight_128 (by decide +kernel) rfl ?_
                refine g_iload (n := 133) X 6 dX12_nextNight_131 rfl rfl ?_
                refine g_iadd (n := 134) (z := v2 + 2520) X dX12_nextNight_133 (by omega) rfl ?_
                refine g_iald2 (n := 135) (v := v456) X (by decide) (gsz hsz (by decide)) lay_191 (by omega) (by omega) (by decide) dX12_nextNight_134 rfl hv456 ?_
                refine g_aload_n (n := 136) X 2 dX12_nextNight_135 rfl rfl rfl ?_
                refine gg_12_1 (n := 139) (z := 191) X (by decide) (gsz hsz (by decide)) lay_190 kw_6_27 dX12_nextNight_136 rfl (rf_190_1 I (gsz hsz (by decide))) (by decide) ?_
                refine g_sipush (n := 142) X dX12_nextNight_139 (by decide +kernel) rfl ?_
                refine g_iload_n (n := 143) X 5 dX12_nextNight_142 rfl rfl rfl ?_
                refine g_iadd (n := 144) (z := v1 + 2520) X dX12_nextNight_143 (by omega) rfl ?_
                obtain ⟨v462, hv462, rv462⟩ := gRd I (by decide) (gsz hsz (by decide)) (rs_NWEEK (k := v1 + 2520) (by omega)).1
                refine g_iald2 (n := 145) (v := v462) X (by decide) (gsz hsz (by decide)) lay_191 (by omega) (by omega) (by decide) dX12_nextNight_144 rfl hv462 ?_
                refine g_icmp_ge (n := 148) (tgt := 153) X dX12_nextNight_145 (by decide) (by omega) (by omega) rfl (fun c463 => ?_) (fun c463 => ?_)
                · refine g_iload_n (n := 154) X 5 dX12_nextNight_153 rfl rfl rfl ?_
                  refine g_istore_n (n := 155) (L' := [(3, gJ v1), (6, gJ 1), (5, gJ 1), (0, gA n0 190), (1, gJ a), (2, gJ b), (4, gJ v2)]) X dX12_nextNight_154 rfl (by decide) rfl rfl ?_
                  refine g_iinc (n := 158) (w := v2 + 1) (L' := [(4, gJ (v2 + 1)), (3, gJ v1), (6, gJ 1), (5, gJ 1), (0, gA n0 190), (1, gJ a), (2, gJ b)]) X 6 dX12_nextNight_155 rfl rfl (by decide) rfl rfl ?_
                  refine g_goto (tgt := 5) X dX12_nextNight_158 (by decide) ?_
                  refine G.sub (L' := [(0, gA n0 190), (1, gJ a), (2, gJ b), (3, gJ v1), (4, gJ (v2 + 1))]) [4, 5, 6, 1, 0] rfl ?_
                  exact ih430 v1 (v2 + 1) (by omega) (by omega) (by omega) (by omega)
                · refine g_iload (n := 150) X 6 dX12_nextNight_148 rfl rfl ?_
                  refine g_goto (tgt := 154) X dX12_nextNight_150 (by decide) ?_
                  refine g_istore_n (n := 155) (L' := [(3, gJ v2), (6, gJ 1), (5, gJ 1), (0, gA n0 190), (1, gJ a), (2, gJ b), (4, gJ v2)]) X dX12_nextNight_154 rfl (by decide) rfl rfl ?_
                  refine g_iinc (n := 158) (w := v2 + 1) (L' := [(4, gJ (v2 + 1)), (3, gJ v2), (6, gJ 1), (5, gJ 1), (0, gA n0 190), (1, gJ a), (2, gJ b)]) X 6 dX12_nextNight_155 rfl rfl (by decide) rfl rfl ?_
                  refine g_goto (tgt := 5) X dX12_nextNight_158 (by decide) ?_
                  refine G.sub (L' := [(0, gA n0 190), (1, gJ a), (2, gJ b), (3, gJ v2), (4, gJ (v2 + 1))]) [4, 5, 6, 1, 0] rfl ?_
                  exact ih430 v2 (v2 + 1) (by omega) (by omega) (by omega) (by omega)
            · refine g_aload_n (n := 73) X 1 dX12_nextNight_72 rfl rfl rfl ?_
              refine gg_12_1 (n := 76) (z := 191) X (by decide) (gsz hsz (by decide)) lay_190 kw_6_27 dX12_nextNight_73 rfl (rf_190_1 I (gsz hsz (by decide))) (by decide) ?_
              refine g_sipush (n := 79) X dX12_nextNight_76 (by decide +kernel) rfl ?_
              refine g_iload (n := 81) X 5 dX12_nextNight_79 rfl rfl ?_
              refine g_iadd (n := 82) (z := v2 + 2520) X dX12_nextNight_81 (by omega) rfl ?_
              refine g_iald2 (n := 83) (v := v456) X (by decide) (gsz hsz (by decide)) lay_191 (by omega) (by omega) (by decide) dX12_nextNight_82 rfl hv456 ?_
              refine g_aload_n (n := 84) X 1 dX12_nextNight_83 rfl rfl rfl ?_
              refine gg_12_1 (n := 87) (z := 191) X (by decide) (gsz hsz (by decide)) lay_190 kw_6_27 dX12_nextNight_84 rfl (rf_190_1 I (gsz hsz (by decide))) (by decide) ?_
              refine g_sipush (n := 90) X dX12_nextNight_87 (by decide +kernel) rfl ?_
              refine g_iload_n (n := 91) X 3 dX12_nextNight_90 rfl rfl rfl ?_
              refine g_iadd (n := 92) (z := b + 2520) X dX12_nextNight_91 (by omega) rfl ?_
              refine g_iald2 (n := 93) (v := v457) X (by decide) (gsz hsz (by decide)) lay_191 (by omega) (by omega) (by decide) dX12_nextNight_92 rfl hv457 ?_
              refine g_icmp_ne (n := 96) (tgt := 106) X dX12_nextNight_93 (by decide) (by omega) (by omega) rfl (fun c464 => ?_) (fun c464 => ?_)
              · refine g_iconst (n := 107) X dX12_nextNight_106 rfl ?_
                refine g_istore (n := 109) (L' := [(6, gJ 0), (5, gJ 1), (0, gA n0 190), (1, gJ a), (2, gJ b), (3, gJ v1), (4, gJ v2)]) X dX12_nextNight_107 (by decide) rfl rfl ?_
                refine g_iload (n := 111) X 1 dX12_nextNight_109 rfl rfl ?_
                refine g_if_eq (n := 114) (tgt := 153) X dX12_nextNight_111 (by decide) (by omega) rfl (fun c465 => by exfalso; omega) (fun c465 => ?_)
                refine g_iload (n := 116) X 0 dX12_nextNight_114 rfl rfl ?_
                refine g_if_eq (n := 119) (tgt := 153) X dX12_nextNight_116 (by decide) (by omega) rfl (fun c466 => ?_) (fun c466 => by exfalso; omega)
                refine g_iload_n (n := 154) X 5 dX12_nextNight_153 rfl rfl rfl ?_
                refine g_istore_n (n := 155) (L' := [(3, gJ v1), (6, gJ 0), (5, gJ 1), (0, gA n0 190), (1, gJ a), (2, gJ b), (4, gJ v2)]) X dX12_nextNight_154 rfl (by decide) rfl rfl ?_
                refine g_iinc (n := 158) (w := v2 + 1) (L' := [(4, gJ (v2 + 1)), (3, gJ v1), (6, gJ 0), (5, gJ 1), (0, gA n0 190), (1, gJ a), (2, gJ b)]) X 6 dX12_nextNight_155 rfl rfl (by decide) rfl rfl ?_
                refine g_goto (tgt := 5) X dX12_nextNight_158 (by decide) ?_
                refine G.sub (L' := [(0, gA n0 190), (1, gJ a), (2, gJ b), (3, gJ v1), (4, gJ (v2 + 1))]) [4, 5, 6, 1, 0] rfl ?_
                exact ih430 v1 (v2 + 1) (by omega) (by omega) (by omega) (by omega)
              · refine g_iload (n := 98) X 5 dX12_nextNight_96 rfl rfl ?_
                refine g_iload_n (n := 99) X 3 dX12_nextNight_98 rfl rfl rfl ?_
                refine g_icmp_le (n := 102) (tgt := 106) X dX12_nextNight_99 (by decide) (by omega) (by omega) rfl (fun c467 => ?_) (fun c467 => ?_)
                · refine g_iconst (n := 107) X dX12_nextNight_106 rfl ?_
                  refine g_istore (n := 109) (L' := [(6, gJ 0), (5, gJ 1), (0, gA n0 190), (1, gJ a), (2, gJ b), (3, gJ v1), (4, gJ v2)]) X dX12_nextNight_107 (by decide) rfl rfl ?_
                  refine g_iload (n := 111) X 1 dX12_nextNight_109 rfl rfl ?_
                  refine g_if_eq (n := 114) (tgt := 153) X dX12_nextNight_111 (by decide) (by omega) rfl (fun c468 => by exfalso; omega) (fun c468 => ?_)
                  refine g_iload (n := 116) X 0 dX12_nextNight_114 rfl rfl ?_
                  refine g_if_eq (n := 119) (tgt := 153) X dX12_nextNight_116 (by decide) (by omega) rfl (fun c469 => ?_) (fun c469 => by exfalso; omega)
                  refine g_iload_n (n := 154) X 5 dX12_nextNight_153 rfl rfl rfl ?_
                  refine g_istore_n (n := 155) (L' := [(3, gJ v1), (6, gJ 0), (5, gJ 1), (0, gA n0 190), (1, gJ a), (2, gJ b), (4, gJ v2)]) X dX12_nextNight_154 rfl (by decide) rfl rfl ?_
                  refine g_iinc (n := 158) (w := v2 + 1) (L' := [(4, gJ (v2 + 1)), (3, gJ v1), (6, gJ 0), (5, gJ 1), (0, gA n0 190), (1, gJ a), (2, gJ b)]) X 6 dX12_nextNight_155 rfl rfl (by decide) rfl rfl ?_
                  refine g_goto (tgt := 5) X dX12_nextNight_158 (by decide) ?_
                  refine G.sub (L' := [(0, gA n0 190), (1, gJ a), (2, gJ b), (3, gJ v1), (4, gJ (v2 + 1))]) [4, 5, 6, 1, 0] rfl ?_
                  exact ih430 v1 (v2 + 1) (by omega) (by omega) (by omega) (by omega)
                · refine g_iconst (n := 103) X dX12_nextNight_102 rfl ?_
                  refine g_goto (tgt := 107) X dX12_nextNight_103 (by decide) ?_
                  refine g_istore (n := 109) (L' := [(6, gJ 1), (5, gJ 1), (0, gA n0 190), (1, gJ a), (2, gJ b), (3, gJ v1), (4, gJ v2)]) X dX12_nextNight_107 (by decide) rfl rfl ?_
                  refine g_iload (n := 111) X 1 dX12_nextNight_109 rfl rfl ?_
                  refine g_if_eq (n := 114) (tgt := 153) X dX12_nextNight_111 (by decide) (by omega) rfl (fun c470 => by exfalso; omega) (fun c470 => ?_)
                  refine g_iload (n := 116) X 0 dX12_nextNight_114 rfl rfl ?_
                  refine g_if_eq (n := 119) (tgt := 153) X dX12_nextNight_116 (by decide) (by omega) rfl (fun c471 => by exfalso; omega) (fun c471 => ?_)
                  refine g_iload_n (n := 120) X 5 dX12_nextNight_119 rfl rfl rfl ?_
                  refine g_iconst (n := 121) X dX12_nextNight_120 rfl ?_
                  refine g_icmp_eq (n := 124) (tgt := 148) X dX12_nextNight_121 (by decide) (by omega) (by omega) rfl (fun c472 => ?_) (fun c472 => ?_)
                  · refine g_iload (n := 150) X 6 dX12_nextNight_148 rfl rfl ?_
                    refine g_goto (tgt := 154) X dX12_nextNight_150 (by decide) ?_
                    refine g_istore_n (n := 155) (L' := [(3, gJ v2), (6, gJ 1), (5, gJ 1), (0, gA n0 190), (1, gJ a), (2, gJ b), (4, gJ v2)]) X dX12_nextNight_154 rfl (by decide) rfl rfl ?_
                    refine g_iinc (n := 158) (w := v2 + 1) (L' := [(4, gJ (v2 + 1)), (3, gJ v2), (6, gJ 1), (5, gJ 1), (0, gA n0 190), (1, gJ a), (2, gJ b)]) X 6 dX12_nextNight_155 rfl rfl (by decide) rfl rfl ?_
                    refine g_goto (tgt := 5) X dX12_nextNight_158 (by decide) ?_
                    refine G.sub (L' := [(0, gA n0 190), (1, gJ a), (2, gJ b), (3, gJ v2), (4, gJ (v2 + 1))]) [4, 5, 6, 1, 0] rfl ?_
                    exact ih430 v2 (v2 + 1) (by omega) (by omega) (by omega) (by omega)
                  · refine g_aload_n (n := 125) X 2 dX12_nextNight_124 rfl rfl rfl ?_
                    refine gg_12_1 (n := 128) (z := 191) X (by decide) (gsz hsz (by decide)) lay_190 kw_6_27 dX12_nextNight_125 rfl (rf_190_1 I (gsz hsz (by decide))) (by decide) ?_
                    refine g_sipush (n := 131) X dX12_nextNight_128 (by decide +kernel) rfl ?_
                    refine g_iload (n := 133) X 6 dX12_nextNight_131 rfl rfl ?_
                    refine g_iadd (n := 134) (z := v2 + 2520) X dX12_nextNight_133 (by omega) rfl ?_
                    refine g_iald2 (n := 135) (v := v456) X (by decide) (gsz hsz (by decide)) lay_191 (by omega) (by omega) (by decide) dX12_nextNight_134 rfl hv456 ?_
                    refine g_aload_n (n := 136) X 2 dX12_nextNight_135 rfl rfl rfl ?_
                    refine gg_12_1 (n := 139) (z := 191) X (by decide) (gsz hsz (by decide)) lay_190 kw_6_27 dX12_nextNight_136 rfl (rf_190_1 I (gsz hsz (by decide))) (by decide) ?_
                    refine g_sipush (n := 142) X dX12_nextNight_139 (by decide +kernel) rfl ?_
                    refine g_iload_n (n := 143) X 5 dX12_nextNight_142 rfl rfl rfl ?_
                    refine g_iadd (n := 144) (z := v1 + 2520) X dX12_nextNight_143 (by omega) rfl ?_
                    obtain ⟨v473, hv473, rv473⟩ := gRd I (by decide) (gsz hsz (by decide)) (rs_NWEEK (k := v1 + 2520) (by omega)).1
                    refine g_iald2 (n := 145) (v := v473) X (by decide) (gsz hsz (by decide)) lay_191 (by omega) (by omega) (by decide) dX12_nextNight_144 rfl hv473 ?_
                    refine g_icmp_ge (n := 148) (tgt := 153) X dX12_nextNight_145 (by decide) (by omega) (by omega) rfl (fun c474 => ?_) (fun c474 => ?_)
                    · refine g_iload_n (n := 154) X 5 dX12_nextNight_153 rfl rfl rfl ?_
                      refine g_istore_n (n := 155) (L' := [(3, gJ v1), (6, gJ 1), (5, gJ 1), (0, gA n0 190), (1, gJ a), (2, gJ b), (4, gJ v2)]) X dX12_nextNight_154 rfl (by decide) rfl rfl ?_
                      refine g_iinc (n := 158) (w := v2 + 1) (L' := [(4, gJ (v2 + 1)), (3, gJ v1), (6, gJ 1), (5, gJ 1), (0, gA n0 190), (1, gJ a), (2, gJ b)]) X 6 dX12_nextNight_155 rfl rfl (by decide) rfl rfl ?_
                      refine g_goto (tgt := 5) X dX12_nextNight_158 (by decide) ?_
                      refine G.sub (L' := [(0, gA n0 190), (1, gJ a), (2, gJ b), (3, gJ v1), (4, gJ (v2 + 1))]) [4, 5, 6, 1, 0] rfl ?_
                      exact ih430 v1 (v2 + 1) (by omega) (by omega) (by omega) (by omega)
                    · refine g_iload (n := 150) X 6 dX12_nextNight_148 rfl rfl ?_
                      refine g_goto (tgt := 154) X dX12_nextNight_150 (by decide) ?_
                      refine g_istore_n (n := 155) (L' := [(3, gJ v2), (6, gJ 1), (5, gJ 1), (0, gA n0 190), (1, gJ a), (2, gJ b), (4, gJ v2)]) X dX12_nextNight_154 rfl (by decide) rfl rfl ?_
                      refine g_iinc (n := 158) (w := v2 + 1) (L' := [(4, gJ (v2 + 1)), (3, gJ v2), (6, gJ 1), (5, gJ 1), (0, gA n0 190), (1, gJ a), (2, gJ b)]) X 6 dX12_nextNight_155 rfl rfl (by decide) rfl rfl ?_
                      refine g_goto (tgt := 5) X dX12_nextNight_158 (by decide) ?_
                      refine G.sub (L' := [(0, gA n0 190), (1, gJ a), (2, gJ b), (3, gJ v2), (4, gJ (v2 + 1))]) [4, 5, 6, 1, 0] rfl ?_
                      exact ih430 v2 (v2 + 1) (by omega) (by omega) (by omega) (by omega)
  refine G.sub (L' := [(0, gA n0 190), (1, gJ a), (2, gJ b), (3, gJ (-1)), (4, gJ 0)]) [2, 3, 4, 1, 0] rfl ?_
  exact j4 _ (-1) 0 (by omega) (by omega) (by omega) (Nat.lt_succ_self _)
def gNK (x k : Int) : Int := if k = -1 then 0 else 12100 - (x * 40 + k)
theorem gNK_lt {x k x' k' : Int} (hk : 0 ≤ k ∧ k ≤ 39) (hx : 0 ≤ x ∧ x ≤ 300) (h : k' = -1 ∨ (0 ≤ k' ∧ x * 40 + k < x' * 40 + k')) : (gNK x' k').toNat < (gNK x k).toNat := by
  have e : gNK x k = 12100 - (x * 40 + k) := by unfold gNK; rw [if_neg (by omega)]
  rw [e]
  rcases h with h | h
  · rw [show gNK x' k' = 0 from by unfold gNK; rw [if_pos h]]; omega
  · rw [show gNK x' k' = 12100 - (x' * 40 + k') from by unfold gNK; rw [if_neg (by omega)]]; omega
theorem dX12_isOne_0 : decode cX12_isOne 0 = .ok (.aload_n 0, 1) := dc_42 (by decide +kernel)
theorem dX12_isOne_1 : decode cX12_isOne 1 = .ok (.iload_n 1, 1) := dc_27 (by decide +kernel)
theorem dX12_isOne_2 : decode cX12_isOne 2 = .ok (.iconst (-1), 1) := dc_2 (by decide +kernel)
theorem dX12_isOne_3 : decode cX12_isOne 3 = .ok (.invokevirtual 288, 3) := dc_182 1 32 (by decide +kernel)
theorem kw_7_212 : (Jvm.Cond.methodLink "ParishUnionModel" (288 : Nat) ({ cls := "ParishUnionModel", name := "nextNight", desc := "(II)I" } : Jvm.MethodName)) ∈ gT := gT_of (tb_7 _ (List.mem_of_getElem? (i := 212) rfl)) rfl
theorem kw_7_215 : (Jvm.Cond.code ({ cls := "ParishUnionModel", name := "nextNight", desc := "(II)I" } : Jvm.MethodName) prog_14_method_87_code (7 : Nat) (Option.some Jvm.ClassFile.FieldType.int)) ∈ gT := gT_of (tb_7 _ (List.mem_of_getElem? (i := 215) rfl)) rfl
theorem okX12_nextNight : gQok yX12_nextNight cX12_nextNight 7 (Option.some Jvm.ClassFile.FieldType.int) 2 := ⟨kw_7_215, kw_1_13, by decide +kernel, by decide +kernel, by decide +kernel⟩
theorem kw_7_214 : (Jvm.Cond.instanceMethod ({ cls := "ParishUnionModel", name := "nextNight", desc := "(II)I" } : Jvm.MethodName)) ∈ gT := gT_of (tb_7 _ (List.mem_of_getElem? (i := 214) rfl)) rfl
theorem kw_0_86 : (Jvm.Cond.selects "ParishUnionModel" ({ cls := "ParishUnionModel", name := "nextNight", desc := "(II)I" } : Jvm.MethodName) ({ cls := "ParishUnionModel", name := "nextNight", desc := "(II)I" } : Jvm.MethodName)) ∈ gT := gT_of (tb_0 _ (List.mem_of_getElem? (i := 86) rfl)) rfl
theorem dX12_isOne_6 : decode cX12_isOne 6 = .ok (.istore_n 2, 1) := dc_61 (by decide +kernel)
theorem dX12_isOne_7 : decode cX12_isOne 7 = .ok (.iconst 1, 1) := dc_4 (by decide +kernel)
theorem dX12_isOne_8 : decode cX12_isOne 8 = .ok (.istore_n 3, 1) := dc_62 (by decide +kernel)
theorem dX12_isOne_9 : decode cX12_isOne 9 = .ok (.iload_n 2, 1) := dc_28 (by decide +kernel)
theorem dX12_isOne_10 : decode cX12_isOne 10 = .ok (.iconst (-1), 1) := dc_2 (by decide +kernel)
theorem dX12_isOne_11 : decode cX12_isOne 11 = .ok (.if_icmp .eq 104, 3) := dc_159 0 104 104 (by decide +kernel)
theorem dX12_isOne_115 : decode cX12_isOne 115 = .ok (.iload_n 3, 1) := dc_29 (by decide +kernel)
theorem dX12_isOne_116 : decode cX12_isOne 116 = .ok (.ireturn, 1) := dc_172 (by decide +kernel)
theorem dX12_isOne_14 : decode cX12_isOne 14 = .ok (.iload_n 3, 1) := dc_29 (by decide +kernel)
theorem dX12_isOne_15 : decode cX12_isOne 15 = .ok (.ifCond .eq 100, 3) := dc_153 0 100 100 (by decide +kernel)
theorem dX12_isOne_18 : decode cX12_isOne 18 = .ok (.aload_n 0, 1) := dc_42 (by decide +kernel)
theorem dX12_isOne_19 : decode cX12_isOne 19 = .ok (.iload_n 1, 1) := dc_27 (by decide +kernel)
theorem dX12_isOne_20 : decode cX12_isOne 20 = .ok (.iload_n 2, 1) := dc_28 (by decide +kernel)
theorem dX12_isOne_21 : decode cX12_isOne 21 = .ok (.invokevirtual 288, 3) := dc_182 1 32 (by decide +kernel)
theorem dX12_isOne_24 : decode cX12_isOne 24 = .ok (.istore 4, 2) := dc_54 4 (by decide +kernel)
theorem dX12_isOne_26 : decode cX12_isOne 26 = .ok (.iload 4, 2) := dc_21 4 (by decide +kernel)
theorem dX12_isOne_28 : decode cX12_isOne 28 = .ok (.iconst (-1), 1) := dc_2 (by decide +kernel)
theorem dX12_isOne_29 : decode cX12_isOne 29 = .ok (.if_icmp .ne 7, 3) := dc_160 0 7 7 (by decide +kernel)
theorem dX12_isOne_36 : decode cX12_isOne 36 = .ok (.aload_n 0, 1) := dc_42 (by decide +kernel)
theorem dX12_isOne_37 : decode cX12_isOne 37 = .ok (.aload_n 0, 1) := dc_42 (by decide +kernel)
theorem dX12_isOne_38 : decode cX12_isOne 38 = .ok (.getfield 7, 3) := dc_180 0 7 (by decide +kernel)
theorem dX12_isOne_41 : decode cX12_isOne 41 = .ok (.sipush 2480, 3) := dc_17 9 176 2480 (by decide +kernel)
theorem dX12_isOne_44 : decode cX12_isOne 44 = .ok (.iload_n 2, 1) := dc_28 (by decide +kernel)
theorem dX12_isOne_45 : decode cX12_isOne 45 = .ok (.iadd, 1) := dc_96 (by decide +kernel)
theorem dX12_isOne_46 : decode cX12_isOne 46 = .ok (.iaload, 1) := dc_46 (by decide +kernel)
theorem dX12_isOne_47 : decode cX12_isOne 47 = .ok (.aload_n 0, 1) := dc_42 (by decide +kernel)
theorem dX12_isOne_48 : decode cX12_isOne 48 = .ok (.getfield 7, 3) := dc_180 0 7 (by decide +kernel)
theorem dX12_isOne_51 : decode cX12_isOne 51 = .ok (.sipush 2480, 3) := dc_17 9 176 2480 (by decide +kernel)
theorem dX12_isOne_54 : decode cX12_isOne 54 = .ok (.iload 4, 2) := dc_21 4 (by decide +kernel)
theorem dX12_isOne_56 : decode cX12_isOne 56 = .ok (.iadd, 1) := dc_96 (by decide +kernel)
theorem dX12_isOne_57 : decode cX12_isOne 57 = .ok (.iaload, 1) := dc_46 (by decide +kernel)
theorem dX12_isOne_58 : decode cX12_isOne 58 = .ok (.invokevirtual 72, 3) := dc_182 0 72 (by decide +kernel)
theorem dX12_isOne_61 : decode cX12_isOne 61 = .ok (.istore 5, 2) := dc_54 5 (by decide +kernel)
theorem dX12_isOne_63 : decode cX12_isOne 63 = .ok (.iload 4, 2) := dc_21 4 (by decide +kernel)
theorem dX12_isOne_65 : decode cX12_isOne 65 = .ok (.iconst (-1), 1) := dc_2 (by decide +kernel)
theorem dX12_isOne_66 : decode cX12_isOne 66 = .ok (.if_icmp .eq 37, 3) := dc_159 0 37 37 (by decide +kernel)
theorem dX12_isOne_69 : decode cX12_isOne 69 = .ok (.iload 5, 2) := dc_21 5 (by decide +kernel)
theorem dX12_isOne_71 : decode cX12_isOne 71 = .ok (.bipush 99, 2) := dc_16 99 99 (by decide +kernel)
theorem dX12_isOne_73 : decode cX12_isOne 73 = .ok (.if_icmp .ge 34, 3) := dc_162 0 34 34 (by decide +kernel)
theorem dX12_isOne_107 : decode cX12_isOne 107 = .ok (.iconst 0, 1) := dc_3 (by decide +kernel)
theorem dX12_isOne_108 : decode cX12_isOne 108 = .ok (.istore_n 3, 1) := dc_62 (by decide +kernel)
theorem dX12_isOne_109 : decode cX12_isOne 109 = .ok (.iload 4, 2) := dc_21 4 (by decide +kernel)
theorem dX12_isOne_111 : decode cX12_isOne 111 = .ok (.istore_n 2, 1) := dc_61 (by decide +kernel)
theorem dX12_isOne_112 : decode cX12_isOne 112 = .ok (.goto (-103), 3) := dc_167 255 153 (-103) (by decide +kernel)
theorem dX12_isOne_76 : decode cX12_isOne 76 = .ok (.aload_n 0, 1) := dc_42 (by decide +kernel)
theorem dX12_isOne_77 : decode cX12_isOne 77 = .ok (.getfield 7, 3) := dc_180 0 7 (by decide +kernel)
theorem dX12_isOne_80 : decode cX12_isOne 80 = .ok (.sipush 2520, 3) := dc_17 9 216 2520 (by decide +kernel)
theorem dX12_isOne_83 : decode cX12_isOne 83 = .ok (.iload 4, 2) := dc_21 4 (by decide +kernel)
theorem dX12_isOne_85 : decode cX12_isOne 85 = .ok (.iadd, 1) := dc_96 (by decide +kernel)
theorem dX12_isOne_86 : decode cX12_isOne 86 = .ok (.iaload, 1) := dc_46 (by decide +kernel)
theorem dX12_isOne_87 : decode cX12_isOne 87 = .ok (.aload_n 0, 1) := dc_42 (by decide +kernel)
theorem dX12_isOne_88 : decode cX12_isOne 88 = .ok (.getfield 7, 3) := dc_180 0 7 (by decide +kernel)
theorem dX12_isOne_91 : decode cX12_isOne 91 = .ok (.sipush 2520, 3) := dc_17 9 216 2520 (by decide +kernel)
theorem dX12_isOne_94 : decode cX12_isOne 94 = .ok (.iload_n 2, 1) := dc_28 (by decide +kernel)
theorem dX12_isOne_95 : decode cX12_isOne 95 = .ok (.iadd, 1) := dc_96 (by decide +kernel)
theorem dX12_isOne_96 : decode cX12_isOne 96 = .ok (.iaload, 1) := dc_46 (by decide +kernel)
theorem dX12_isOne_97 : decode cX12_isOne 97 = .ok (.isub, 1) := dc_100 (by decide +kernel)
theorem dX12_isOne_98 : decode cX12_isOne 98 = .ok (.iload 5, 2) := dc_21 5 (by decide +kernel)
theorem dX12_isOne_100 : decode cX12_isOne 100 = .ok (.if_icmp .lt 7, 3) := dc_161 0 7 7 (by decide +kernel)
theorem dX12_isOne_103 : decode cX12_isOne 103 = .ok (.iconst 1, 1) := dc_4 (by decide +kernel)
theorem dX12_isOne_104 : decode cX12_isOne 104 = .ok (.goto 4, 3) := dc_167 0 4 4 (by decide +kernel)
theorem dX12_isOne_32 : decode cX12_isOne 32 = .ok (.iconst 0, 1) := dc_3 (by decide +kernel)
theorem dX12_isOne_33 : decode cX12_isOne 33 = .ok (.goto 28, 3) := dc_167 0 28 28 (by decide +kernel)
theorem rsp_2480_2560 {sz : Nat} {M : gM} {k : Int} (I : gI sz M) (h1 : (191 : Int) < (sz : Int)) (h : 2480 ≤ k ∧ k < 2560) : ∃ v : Int, M 191 k = v ∧ (0 ≤ v ∧ v ≤ 300) := by
  rcases (by omega : (2480 ≤ k ∧ k < 2520) ∨ (2520 ≤ k ∧ k < 2560)) with h | h
  · obtain ⟨v, hv, rv⟩ := gRd I (by decide) h1 (rs_NAT h).1
    exact ⟨v, hv, by omega⟩
  · obtain ⟨v, hv, rv⟩ := gRd I (by decide) h1 (rs_NWEEK h).1
    exact ⟨v, hv, by omega⟩
abbrev R_X12_isOne : Room := { frames := 1, cells := 0, slots := 0, locals := 26 }
set_option maxRecDepth 100000 in
set_option maxHeartbeats 4000000 in
theorem s_X12_isOne {l : Launch} {n0 : Nat} {D : va_G} {cA : Nat → ClassId} {M : gM} (a : Int) (r_a : -2147483648 ≤ a ∧ a ≤ 2147483647) {sz : Nat} (hsz : 206 ≤ sz) (I : gI sz M) (C : gC sz M)   : Met l yX12_isOne (gWsOf yX12_isOne cX12_isOne 6 (Option.some Jvm.ClassFile.FieldType.boolean)) R_X12_isOne (gPc n0 D cA [gA n0 190, gJ a] M sz) (gQi n0 D cA sz (fun z M1 => M = M1 ∧ (0 ≤ z ∧ z ≤ 1))) 0 0 (fun q => n0 ≤ q) := by
  refine gMetZ [gA n0 190, gJ a] (by decide) (Nat.le_of_ble_eq_true rfl) ⟨rfl, rfl⟩ ?_
  intro p e s m args below meth cd Q X hq
  have X : gCx p s m args meth cd n0 D cA "ParishUnionModel" cX12_isOne 6 := X
  show G p l e R_X12_isOne s m args below meth cd n0 D cA 6 Q 0 0 M sz 0 [(0, gA n0 190), (1, gJ a)] []
  refine g_aload_n (n := 1) X 0 dX12_isOne_0 rfl rfl rfl ?_
  refine g_iload_n (n := 2) X 1 dX12_isOne_1 rfl rfl rfl ?_
  refine g_iconst (n := 3) X dX12_isOne_2 rfl ?_
  refine g_callVi (n := 6) (As := [gJ a, gJ (-1)]) (rest := []) (cs1 := 0) (ss1 := 0) X (s_X12_nextNight a (by omega) (-1) (by omega) hsz I C ) okX12_nextNight kw_7_212 ⟨kw_7_214, kw_0_86⟩ ⟨rfl, rfl⟩ ⟨Nat.le_of_ble_eq_true rfl, Nat.le_of_ble_eq_true rfl⟩ rfl (by decide) (gsz hsz (by decide)) lay_190 rfl rfl (Nat.le_of_ble_eq_true rfl) ⟨Nat.le_of_ble_eq_true rfl, Nat.le_of_ble_eq_true rfl⟩ rfl rfl dX12_isOne_3 rfl (fun v1 M2 P3 => ?_)
  obtain ⟨rfl, rv1, xv1⟩ := P3
  refine g_istore_n (n := 7) (L' := [(2, gJ v1), (0, gA n0 190), (1, gJ a)]) X dX12_isOne_6 rfl (by decide) rfl rfl ?_
  refine g_iconst (n := 8) X dX12_isOne_7 rfl ?_
  refine g_istore_n (n := 9) (L' := [(3, gJ 1), (2, gJ v1), (0, gA n0 190), (1, gJ a)]) X dX12_isOne_8 rfl (by decide) rfl rfl ?_
  have j7 : ∀ (N42 : Nat) (v4 v5 : Int) , (-1 ≤ v4 ∧ v4 ≤ 39) → (0 ≤ v5 ∧ v5 ≤ 1) → (gNK (M 191 (v4 + 2520)) v4).toNat < N42 → G p l e R_X12_isOne s m args below meth cd n0 D cA 6 Q 0 0 M sz 9 [(0, gA n0 190), (1, gJ a), (2, gJ v4), (3, gJ v5)] [] := by
    intro N42; induction N42 with
    | zero => intro v4 v5 rv4 rv5 hm44; exfalso; omega
    | succ N42 ih43 =>
      intro v4 v5 rv4 rv5 hm44
      obtain ⟨v45, hv45, rv45⟩ := rsp_2480_2560 (k := v4 + 2520) I (gsz hsz (by decide)) (by omega)
      refine g_iload_n (n := 10) X 2 dX12_isOne_9 rfl rfl rfl ?_
      refine g_iconst (n := 11) X dX12_isOne_10 rfl ?_
      refine g_icmp_eq (n := 14) (tgt := 115) X dX12_isOne_11 (by decide) (by omega) (by omega) rfl (fun c46 => ?_) (fun c46 => ?_)
      · refine g_iload_n (n := 116) X 3 dX12_isOne_115 rfl rfl rfl ?_
        exact hq _ _ _ _ dX12_isOne_116 (by omega) ⟨rfl, by omega⟩
      · refine g_iload_n (n := 15) X 3 dX12_isOne_14 rfl rfl rfl ?_
        refine g_if_eq (n := 18) (tgt := 115) X dX12_isOne_15 (by decide) (by omega) rfl (fun c47 => ?_) (fun c47 => ?_)
        · refine g_iload_n (n := 116) X 3 dX12_isOne_115 rfl rfl rfl ?_
          exact hq _ _ _ _ dX12_isOne_116 (by omega) ⟨rfl, by omega⟩
        · refine g_aload_n (n := 19) X 0 dX12_isOne_18 rfl rfl rfl ?_
          refine g_iload_n (n := 20) X 1 dX12_isOne_19 rfl rfl rfl ?_
          refine g_iload_n (n := 21) X 2 dX12_isOne_20 rfl rfl rfl ?_
          refine g_callVi (n := 24) (As := [gJ a, gJ v4]) (rest := []) (cs1 := 0) (ss1 := 0) X (s_X12_nextNight a (by omega) v4 (by omega) hsz I C ) okX12_nextNight kw_7_212 ⟨kw_7_214, kw_0_86⟩ ⟨rfl, rfl⟩ ⟨Nat.le_of_ble_eq_true rfl, Nat.le_of_ble_eq_true rfl⟩ rfl (by decide) (gsz hsz (by decide)) lay_190 rfl rfl (Nat.le_of_ble_eq_true rfl) ⟨Nat.le_of_ble_eq_true rfl, Nat.le_of_ble_eq_true rfl⟩ rfl rfl dX12_isOne_21 rfl (fun v48 M49 P50 => ?_)
          obtain ⟨rfl, rv48, xv48⟩ := P50
          refine g_istore (n := 26) (L' := [(4, gJ v48), (0, gA n0 190), (1, gJ a), (2, gJ v4), (3, gJ v5)]) X dX12_isOne_24 (by decide) rfl rfl ?_
          refine g_iload (n := 28) X 0 dX12_isOne_26 rfl rfl ?_
          refine g_iconst (n := 29) X dX12_isOne_28 rfl ?_
          refine g_icmp_ne (n := 32) (tgt := 36) X dX12_isOne_29 (by decide) (by omega) (by omega) rfl (fun c51 => ?_) (fun c51 => ?_)
          · refine g_aload_n (n := 37) X 1 dX12_isOne_36 rfl rfl rfl ?_
            refine g_aload_n (n := 38) X 1 dX12_isOne_37 rfl rfl rfl ?_
            refine gg_12_1 (n := 41) (z := 191) X (by decide) (gsz hsz (by decide)) lay_190 kw_6_27 dX12_isOne_38 rfl (rf_190_1 I (gsz hsz (by decide))) (by decide) ?_
            refine g_sipush (n := 44) X dX12_isOne_41 (by decide +kernel) rfl ?_
            refine g_iload_n (n := 45) X 3 dX12_isOne_44 rfl rfl rfl ?_
            refine g_iadd (n := 46) (z := v4 + 2480) X dX12_isOne_45 (by omega) rfl ?_
            obtain ⟨v52, hv52, rv52⟩ := gRd I (by decide) (gsz hsz (by decide)) (rs_NAT (k := v4 + 2480) (by omega)).1
            refine g_iald2 (n := 47) (v := v52) X (by decide) (gsz hsz (by decide)) lay_191 (by omega) (by omega) (by decide) dX12_isOne_46 rfl hv52 ?_
            refine g_aload_n (n := 48) X 1 dX12_isOne_47 rfl rfl rfl ?_
            refine gg_12_1 (n := 51) (z := 191) X (by decide) (gsz hsz (by decide)) lay_190 kw_6_27 dX12_isOne_48 rfl (rf_190_1 I (gsz hsz (by decide))) (by decide) ?_
            refine g_sipush (n := 54) X dX12_isOne_51 (by decide +kernel) rfl ?_
            refine g_iload (n := 56) X 0 dX12_isOne_54 rfl rfl ?_
            refine g_iadd (n := 57) (z := v48 + 2480) X dX12_isOne_56 (by omega) rfl ?_
            obtain ⟨v53, hv53, rv53⟩ := gRd I (by decide) (gsz hsz (by decide)) (rs_NAT (k := v48 + 2480) (by omega)).1
            refine g_iald2 (n := 58) (v := v53) X (by decide) (gsz hsz (by decide)) lay_191 (by omega) (by omega) (by decide) dX12_isOne_57 rfl hv53 ?_
            refine g_callVi (n := 61) (As := [gJ v52, gJ v53]) (rest := []) (cs1 := 0) (ss1 := 0) X (s_X12_farOf2 v52 (by omega) v53 (by omega) hsz I C ) okX12_farOf kw_6_113 ⟨kw_6_115, kw_0_39⟩ ⟨rfl, rfl⟩ ⟨Nat.le_of_ble_eq_true rfl, Nat.le_of_ble_eq_true rfl⟩ rfl (by decide) (gsz hsz (by decide)) lay_190 rfl rfl (Nat.le_of_ble_eq_true rfl) ⟨Nat.le_of_ble_eq_true rfl, Nat.le_of_ble_eq_true rfl⟩ rfl rfl dX12_isOne_58 rfl (fun v54 M55 P56 => ?_)
            obtain ⟨rfl, rv54, xv54⟩ := P56
            refine g_istore (n := 63) (L' := [(5, gJ v54), (4, gJ v48), (0, gA n0 190), (1, gJ a), (2, gJ v4), (3, gJ v5)]) X dX12_isOne_61 (by decide) rfl rfl ?_
            refine g_iload (n := 65) X 1 dX12_isOne_63 rfl rfl ?_
            refine g_iconst (n := 66) X dX12_isOne_65 rfl ?_
            refine g_icmp_eq (n := 69) (tgt := 103) X dX12_isOne_66 (by decide) (by omega) (by omega) rfl (fun c57 => by exfalso; omega) (fun c57 => ?_)
            refine g_iload (n := 71) X 0 dX12_isOne_69 rfl rfl ?_
            refine g_bipush (n := 73) X dX12_isOne_71 (by decide +kernel) rfl ?_
            refine g_icmp_ge (n := 76) (tgt := 107) X dX12_isOne_73 (by decide) (by omega) (by omega) rfl (fun c58 => ?_) (fun c58 => ?_)
            · refine g_iconst (n := 108) X dX12_isOne_107 rfl ?_
              refine g_istore_n (n := 109) (L' := [(3, gJ 0), (5, gJ v54), (4, gJ v48), (0, gA n0 190), (1, gJ a), (2, gJ v4)]) X dX12_isOne_108 rfl (by decide) rfl rfl ?_
              refine g_iload (n := 111) X 2 dX12_isOne_109 rfl rfl ?_
              refine g_istore_n (n := 112) (L' := [(2, gJ v48), (3, gJ 0), (5, gJ v54), (4, gJ v48), (0, gA n0 190), (1, gJ a)]) X dX12_isOne_111 rfl (by decide) rfl rfl ?_
              refine g_goto (tgt := 9) X dX12_isOne_112 (by decide) ?_
              refine G.sub (L' := [(0, gA n0 190), (1, gJ a), (2, gJ v48), (3, gJ 0)]) [4, 5, 0, 1] rfl ?_
              exact ih43 v48 0 (by omega) (by omega) (by have hx := gNK_lt (x := M 191 (v4 + 2520)) (k := v4) (x' := M 191 (v48 + 2520)) (k' := v48) (by omega) (by omega) (by omega); omega)
            · refine g_aload_n (n := 77) X 2 dX12_isOne_76 rfl rfl rfl ?_
              refine gg_12_1 (n := 80) (z := 191) X (by decide) (gsz hsz (by decide)) lay_190 kw_6_27 dX12_isOne_77 rfl (rf_190_1 I (gsz hsz (by decide))) (by decide) ?_
              refine g_sipush (n := 83) X dX12_isOne_80 (by decide +kernel) rfl ?_
              refine g_iload (n := 85) X 1 dX12_isOne_83 rfl rfl ?_
              refine g_iadd (n := 86) (z := v48 + 2520) X dX12_isOne_85 (by omega) rfl ?_
              obtain ⟨v59, hv59, rv59⟩ := gRd I (by decide) (gsz hsz (by decide)) (rs_NWEEK (k := v48 + 2520) (by omega)).1
              refine g_iald2 (n := 87) (v := v59) X (by decide) (gsz hsz (by decide)) lay_191 (by omega) (by omega) (by decide) dX12_isOne_86 rfl hv59 ?_
              refine g_aload_n (n := 88) X 2 dX12_isOne_87 rfl rfl rfl ?_
              refine gg_12_1 (n := 91) (z := 191) X (by decide) (gsz hsz (by decide)) lay_190 kw_6_27 dX12_isOne_88 rfl (rf_190_1 I (gsz hsz (by decide))) (by decide) ?_
              refine g_sipush (n := 94) X dX12_isOne_91 (by decide +kernel) rfl ?_
              refine g_iload_n (n := 95) X 4 dX12_isOne_94 rfl rfl rfl ?_
              refine g_iadd (n := 96) (z := v4 + 2520) X dX12_isOne_95 (by omega) rfl ?_
              refine g_iald2 (n := 97) (v := v45) X (by decide) (gsz hsz (by decide)) lay_191 (by omega) (by omega) (by decide) dX12_isOne_96 rfl hv45 ?_
              refine g_isub (n := 98) (z := v59 - v45) X dX12_isOne_97 rfl rfl ?_
              refine g_iload (n := 100) X 0 dX12_isOne_98 rfl rfl ?_
              refine g_icmp_lt (n := 103) (tgt := 107) X dX12_isOne_100 (by decide) (by omega) (by omega) rfl (fun c60 => ?_) (fun c60 => ?_)
              · refine g_iconst (n := 108) X dX12_isOne_107 rfl ?_
                refine g_istore_n (n := 109) (L' := [(3, gJ 0), (5, gJ v54), (4, gJ v48), (0, gA n0 190), (1, gJ a), (2, gJ v4)]) X dX12_isOne_108 rfl (by decide) rfl rfl ?_
                refine g_iload (n := 111) X 2 dX12_isOne_109 rfl rfl ?_
                refine g_istore_n (n := 112) (L' := [(2, gJ v48), (3, gJ 0), (5, gJ v54), (4, gJ v48), (0, gA n0 190), (1, gJ a)]) X dX12_isOne_111 rfl (by decide) rfl rfl ?_
                refine g_goto (tgt := 9) X dX12_isOne_112 (by decide) ?_
                refine G.sub (L' := [(0, gA n0 190), (1, gJ a), (2, gJ v48), (3, gJ 0)]) [4, 5, 0, 1] rfl ?_
                exact ih43 v48 0 (by omega) (by omega) (by have hx := gNK_lt (x := M 191 (v4 + 2520)) (k := v4) (x' := M 191 (v48 + 2520)) (k' := v48) (by omega) (by omega) (by omega); omega)
              · refine g_iconst (n := 104) X dX12_isOne_103 rfl ?_
                refine g_goto (tgt := 108) X dX12_isOne_104 (by decide) ?_
                refine g_istore_n (n := 109) (L' := [(3, gJ 1), (5, gJ v54), (4, gJ v48), (0, gA n0 190), (1, gJ a), (2, gJ v4)]) X dX12_isOne_108 rfl (by decide) rfl rfl ?_
                refine g_iload (n := 111) X 2 dX12_isOne_109 rfl rfl ?_
                refine g_istore_n (n := 112) (L' := [(2, gJ v48), (3, gJ 1), (5, gJ v54), (4, gJ v48), (0, gA n0 190), (1, gJ a)]) X dX12_isOne_111 rfl (by decide) rfl rfl ?_
                refine g_goto (tgt := 9) X dX12_isOne_112 (by decide) ?_
                refine G.sub (L' := [(0, gA n0 190), (1, gJ a), (2, gJ v48), (3, gJ 1)]) [4, 5, 0, 1] rfl ?_
                exact ih43 v48 1 (by omega) (by omega) (by have hx := gNK_lt (x := M 191 (v4 + 2520)) (k := v4) (x' := M 191 (v48 + 2520)) (k' := v48) (by omega) (by omega) (by omega); omega)
          · refine g_iconst (n := 33) X dX12_isOne_32 rfl ?_
            refine g_goto (tgt := 61) X dX12_isOne_33 (by decide) ?_
            refine g_istore (n := 63) (L' := [(5, gJ 0), (4, gJ v48), (0, gA n0 190), (1, gJ a), (2, gJ v4), (3, gJ v5)]) X dX12_isOne_61 (by decide) rfl rfl ?_
            refine g_iload (n := 65) X 1 dX12_isOne_63 rfl rfl ?_
            refine g_iconst (n := 66) X dX12_isOne_65 rfl ?_
            refine g_icmp_eq (n := 69) (tgt := 103) X dX12_isOne_66 (by decide) (by omega) (by omega) rfl (fun c61 => ?_) (fun c61 => by exfalso; omega)
            refine g_iconst (n := 104) X dX12_isOne_103 rfl ?_
            refine g_goto (tgt := 108) X dX12_isOne_104 (by decide) ?_
            refine g_istore_n (n := 109) (L' := [(3, gJ 1), (5, gJ 0), (4, gJ v48), (0, gA n0 190), (1, gJ a), (2, gJ v4)]) X dX12_isOne_108 rfl (by decide) rfl rfl ?_
            refine g_iload (n := 111) X 2 dX12_isOne_109 rfl rfl ?_
            refine g_istore_n (n := 112) (L' := [(2, gJ v48), (3, gJ 1), (5, gJ 0), (4, gJ v48), (0, gA n0 190), (1, gJ a)]) X dX12_isOne_111 rfl (by decide) rfl rfl ?_
            refine g_goto (tgt := 9) X dX12_isOne_112 (by decide) ?_
            refine G.sub (L' := [(0, gA n0 190), (1, gJ a), (2, gJ v48), (3, gJ 1)]) [4, 5, 0, 1] rfl ?_
            exact ih43 v48 1 (by omega) (by omega) (by have hx := gNK_lt (x := M 191 (v4 + 2520)) (k := v4) (x' := M 191 (v48 + 2520)) (k' := v48) (by omega) (by omega) (by omega); omega)
  refine G.sub (L' := [(0, gA n0 190), (1, gJ a), (2, gJ v1), (3, gJ 1)]) [2, 3, 1, 0] rfl ?_
  exact j7 _ v1 1 (by omega) (by omega) (Nat.lt_succ_self _)
theorem dX12_one_0 : decode cX12_one 0 = .ok (.iload_n 1, 1) := dc_27 (by decide +kernel)
theorem dX12_one_1 : decode cX12_one 1 = .ok (.iconst 0, 1) := dc_3 (by decide +kernel)
theorem dX12_one_2 : decode cX12_one 2 = .ok (.sipush 255, 3) := dc_17 0 255 255 (by decide +kernel)
theorem dX12_one_5 : decode cX12_one 5 = .ok (.invokestatic 64, 3) := dc_184 0 64 (by decide +kernel)
theorem dX12_one_8 : decode cX12_one 8 = .ok (.ifCond .ne 8, 3) := dc_154 0 8 8 (by decide +kernel)
theorem dX12_one_16 : decode cX12_one 16 = .ok (.aload_n 0, 1) := dc_42 (by decide +kernel)
theorem dX12_one_17 : decode cX12_one 17 = .ok (.iload_n 1, 1) := dc_27 (by decide +kernel)
theorem dX12_one_18 : decode cX12_one 18 = .ok (.invokevirtual 291, 3) := dc_182 1 35 (by decide +kernel)
theorem kw_7_208 : (Jvm.Cond.methodLink "ParishUnionModel" (291 : Nat) ({ cls := "ParishUnionModel", name := "isOne", desc := "(I)Z" } : Jvm.MethodName)) ∈ gT := gT_of (tb_7 _ (List.mem_of_getElem? (i := 208) rfl)) rfl
theorem kw_7_211 : (Jvm.Cond.code ({ cls := "ParishUnionModel", name := "isOne", desc := "(I)Z" } : Jvm.MethodName) prog_14_method_88_code (6 : Nat) (Option.some Jvm.ClassFile.FieldType.boolean)) ∈ gT := gT_of (tb_7 _ (List.mem_of_getElem? (i := 211) rfl)) rfl
theorem okX12_isOne : gQok yX12_isOne cX12_isOne 6 (Option.some Jvm.ClassFile.FieldType.boolean) 1 := ⟨kw_7_211, kw_1_13, by decide +kernel, by decide +kernel, by decide +kernel⟩
theorem kw_7_210 : (Jvm.Cond.instanceMethod ({ cls := "ParishUnionModel", name := "isOne", desc := "(I)Z" } : Jvm.MethodName)) ∈ gT := gT_of (tb_7 _ (List.mem_of_getElem? (i := 210) rfl)) rfl
theorem kw_0_85 : (Jvm.Cond.selects "ParishUnionModel" ({ cls := "ParishUnionModel", name := "isOne", desc := "(I)Z" } : Jvm.MethodName) ({ cls := "ParishUnionModel", name := "isOne", desc := "(I)Z" } : Jvm.MethodName)) ∈ gT := gT_of (tb_0 _ (List.mem_of_getElem? (i := 85) rfl)) rfl
theorem dX12_one_21 : decode cX12_one 21 = .ok (.ifCond .eq 7, 3) := dc_153 0 7 7 (by decide +kernel)
theorem dX12_one_28 : decode cX12_one 28 = .ok (.iconst 0, 1) := dc_3 (by decide +kernel)
theorem dX12_one_29 : decode cX12_one 29 = .ok (.ireturn, 1) := dc_172 (by decide +kernel)
theorem dX12_one_24 : decode cX12_one 24 = .ok (.iconst 1, 1) := dc_4 (by decide +kernel)
theorem dX12_one_25 : decode cX12_one 25 = .ok (.goto 4, 3) := dc_167 0 4 4 (by decide +kernel)
theorem dX12_one_11 : decode cX12_one 11 = .ok (.bipush (-2), 2) := dc_16 254 (-2) (by decide +kernel)
theorem dX12_one_13 : decode cX12_one 13 = .ok (.goto 16, 3) := dc_167 0 16 16 (by decide +kernel)
abbrev R_X12_one : Room := { frames := 2, cells := 0, slots := 0, locals := 51 }
set_option maxRecDepth 100000 in
set_option maxHeartbeats 4000000 in
theorem s_X12_one {l : Launch} {n0 : Nat} {D : va_G} {cA : Nat → ClassId} {M : gM} (a : Int) (r_a : -2147483648 ≤ a ∧ a ≤ 2147483647) {sz : Nat} (hsz : 206 ≤ sz) (I : gI sz M) (C : gC sz M)   : Met l yX12_one (gWsOf yX12_one cX12_one 2 (Option.some Jvm.ClassFile.FieldType.int)) R_X12_one (gPc n0 D cA [gA n0 190, gJ a] M sz) (gQi n0 D cA sz (fun z M1 => M = M1 ∧ (-2 ≤ z ∧ z ≤ 1))) 0 0 (fun q => n0 ≤ q) := by
  refine gMetI [gA n0 190, gJ a] (by decide) (Nat.le_of_ble_eq_true rfl) ⟨rfl, rfl⟩ ?_
  intro p e s m args below meth cd Q X hq
  have X : gCx p s m args meth cd n0 D cA "ParishUnionModel" cX12_one 2 := X
  show G p l e R_X12_one s m args below meth cd n0 D cA 2 Q 0 0 M sz 0 [(0, gA n0 190), (1, gJ a)] []
  refine g_iload_n (n := 1) X 1 dX12_one_0 rfl rfl rfl ?_
  refine g_iconst (n := 2) X dX12_one_1 rfl ?_
  refine g_sipush (n := 5) X dX12_one_2 (by decide +kernel) rfl ?_
  refine g_callSi (n := 8) (As := [gJ a, gJ 0, gJ 255]) (rest := []) (cs1 := 0) (ss1 := 0) X (s_X12_in a (by omega) 0 (by omega) 255 (by omega) hsz I C ) okX12_in kw_6_106 kw_6_107 ⟨rfl, rfl⟩ ⟨Nat.le_of_ble_eq_true rfl, Nat.le_of_ble_eq_true rfl⟩ rfl rfl (Nat.le_of_ble_eq_true rfl) ⟨Nat.le_of_ble_eq_true rfl, Nat.le_of_ble_eq_true rfl⟩ rfl rfl dX12_one_5 rfl (fun v1 M2 P3 => ?_)
  obtain ⟨rfl, rv1, xv1⟩ := P3
  refine g_if_ne (n := 11) (tgt := 16) X dX12_one_8 (by decide) (by omega) rfl (fun c4 => ?_) (fun c4 => ?_)
  · refine g_aload_n (n := 17) X 0 dX12_one_16 rfl rfl rfl ?_
    refine g_iload_n (n := 18) X 1 dX12_one_17 rfl rfl rfl ?_
    refine g_callVi (n := 21) (As := [gJ a]) (rest := []) (cs1 := 0) (ss1 := 0) X (s_X12_isOne a (by omega) hsz I C ) okX12_isOne kw_7_208 ⟨kw_7_210, kw_0_85⟩ ⟨rfl, rfl⟩ ⟨Nat.le_of_ble_eq_true rfl, Nat.le_of_ble_eq_true rfl⟩ rfl (by decide) (gsz hsz (by decide)) lay_190 rfl rfl (Nat.le_of_ble_eq_true rfl) ⟨Nat.le_of_ble_eq_true rfl, Nat.le_of_ble_eq_true rfl⟩ rfl rfl dX12_one_18 rfl (fun v5 M6 P7 => ?_)
    obtain ⟨rfl, rv5⟩ := P7
    refine g_if_eq (n := 24) (tgt := 28) X dX12_one_21 (by decide) (by omega) rfl (fun c8 => ?_) (fun c8 => ?_)
    · refine g_iconst (n := 29) X dX12_one_28 rfl ?_
      exact hq _ _ _ _ dX12_one_29 ⟨rfl, by omega⟩
    · refine g_iconst (n := 25) X dX12_one_24 rfl ?_
      refine g_goto (tgt := 29) X dX12_one_25 (by decide) ?_
      exact hq _ _ _ _ dX12_one_29 ⟨rfl, by omega⟩
  · refine g_bipush (n := 13) X dX12_one_11 (by decide +kernel) rfl ?_
    refine g_goto (tgt := 29) X dX12_one_13 (by decide) ?_
    exact hq _ _ _ _ dX12_one_29 ⟨rfl, by omega⟩
theorem dX12_greatest_0 : decode cX12_greatest 0 = .ok (.iconst 0, 1) := dc_3 (by decide +kernel)
theorem dX12_greatest_1 : decode cX12_greatest 1 = .ok (.istore_n 1, 1) := dc_60 (by decide +kernel)
theorem dX12_greatest_2 : decode cX12_greatest 2 = .ok (.iconst 0, 1) := dc_3 (by decide +kernel)
theorem dX12_greatest_3 : decode cX12_greatest 3 = .ok (.istore_n 2, 1) := dc_61 (by decide +kernel)
theorem dX12_greatest_4 : decode cX12_greatest 4 = .ok (.iload_n 2, 1) := dc_28 (by decide +kernel)
theorem dX12_greatest_5 : decode cX12_greatest 5 = .ok (.aload_n 0, 1) := dc_42 (by decide +kernel)
theorem dX12_greatest_6 : decode cX12_greatest 6 = .ok (.getfield 7, 3) := dc_180 0 7 (by decide +kernel)
theorem dX12_greatest_9 : decode cX12_greatest 9 = .ok (.bipush 6, 2) := dc_16 6 6 (by decide +kernel)
theorem dX12_greatest_11 : decode cX12_greatest 11 = .ok (.iaload, 1) := dc_46 (by decide +kernel)
theorem dX12_greatest_12 : decode cX12_greatest 12 = .ok (.if_icmp .ge 24, 3) := dc_162 0 24 24 (by decide +kernel)
theorem dX12_greatest_15 : decode cX12_greatest 15 = .ok (.iload_n 1, 1) := dc_27 (by decide +kernel)
theorem dX12_greatest_16 : decode cX12_greatest 16 = .ok (.iconst 1, 1) := dc_4 (by decide +kernel)
theorem dX12_greatest_17 : decode cX12_greatest 17 = .ok (.aload_n 0, 1) := dc_42 (by decide +kernel)
theorem dX12_greatest_18 : decode cX12_greatest 18 = .ok (.getfield 7, 3) := dc_180 0 7 (by decide +kernel)
theorem dX12_greatest_21 : decode cX12_greatest 21 = .ok (.sipush 2440, 3) := dc_17 9 136 2440 (by decide +kernel)
theorem dX12_greatest_24 : decode cX12_greatest 24 = .ok (.iload_n 2, 1) := dc_28 (by decide +kernel)
theorem dX12_greatest_25 : decode cX12_greatest 25 = .ok (.iadd, 1) := dc_96 (by decide +kernel)
theorem dX12_greatest_26 : decode cX12_greatest 26 = .ok (.iaload, 1) := dc_46 (by decide +kernel)
theorem dX12_greatest_27 : decode cX12_greatest 27 = .ok (.ishl, 1) := dc_120 (by decide +kernel)
theorem dX12_greatest_28 : decode cX12_greatest 28 = .ok (.ior, 1) := dc_128 (by decide +kernel)
theorem dX12_greatest_29 : decode cX12_greatest 29 = .ok (.istore_n 1, 1) := dc_60 (by decide +kernel)
theorem dX12_greatest_30 : decode cX12_greatest 30 = .ok (.iinc 2 1, 3) := dc_132 2 1 1 (by decide +kernel)
theorem dX12_greatest_33 : decode cX12_greatest 33 = .ok (.goto (-29), 3) := dc_167 255 227 (-29) (by decide +kernel)
theorem dX12_greatest_36 : decode cX12_greatest 36 = .ok (.iconst 0, 1) := dc_3 (by decide +kernel)
theorem dX12_greatest_37 : decode cX12_greatest 37 = .ok (.istore_n 2, 1) := dc_61 (by decide +kernel)
theorem dX12_greatest_38 : decode cX12_greatest 38 = .ok (.iconst 1, 1) := dc_4 (by decide +kernel)
theorem dX12_greatest_39 : decode cX12_greatest 39 = .ok (.istore_n 3, 1) := dc_62 (by decide +kernel)
theorem dX12_greatest_40 : decode cX12_greatest 40 = .ok (.iload_n 3, 1) := dc_29 (by decide +kernel)
theorem dX12_greatest_41 : decode cX12_greatest 41 = .ok (.sipush 256, 3) := dc_17 1 0 256 (by decide +kernel)
theorem dX12_greatest_44 : decode cX12_greatest 44 = .ok (.if_icmp .ge 62, 3) := dc_162 0 62 62 (by decide +kernel)
theorem dX12_greatest_47 : decode cX12_greatest 47 = .ok (.iload_n 3, 1) := dc_29 (by decide +kernel)
theorem dX12_greatest_48 : decode cX12_greatest 48 = .ok (.iload_n 1, 1) := dc_27 (by decide +kernel)
theorem dX12_greatest_49 : decode cX12_greatest 49 = .ok (.iconst (-1), 1) := dc_2 (by decide +kernel)
theorem dX12_greatest_50 : decode cX12_greatest 50 = .ok (.ixor, 1) := dc_130 (by decide +kernel)
theorem dX12_greatest_51 : decode cX12_greatest 51 = .ok (.iand, 1) := dc_126 (by decide +kernel)
theorem dX12_greatest_52 : decode cX12_greatest 52 = .ok (.ifCond .ne 26, 3) := dc_154 0 26 26 (by decide +kernel)
theorem dX12_greatest_78 : decode cX12_greatest 78 = .ok (.iconst 0, 1) := dc_3 (by decide +kernel)
theorem dX12_greatest_79 : decode cX12_greatest 79 = .ok (.istore 4, 2) := dc_54 4 (by decide +kernel)
theorem dX12_greatest_81 : decode cX12_greatest 81 = .ok (.iload 4, 2) := dc_21 4 (by decide +kernel)
theorem dX12_greatest_83 : decode cX12_greatest 83 = .ok (.ifCond .eq 15, 3) := dc_153 0 15 15 (by decide +kernel)
theorem dX12_greatest_98 : decode cX12_greatest 98 = .ok (.iload_n 2, 1) := dc_28 (by decide +kernel)
theorem dX12_greatest_99 : decode cX12_greatest 99 = .ok (.istore_n 2, 1) := dc_61 (by decide +kernel)
theorem dX12_greatest_100 : decode cX12_greatest 100 = .ok (.iinc 3 1, 3) := dc_132 3 1 1 (by decide +kernel)
theorem dX12_greatest_103 : decode cX12_greatest 103 = .ok (.goto (-63), 3) := dc_167 255 193 (-63) (by decide +kernel)
theorem dX12_greatest_55 : decode cX12_greatest 55 = .ok (.iload_n 3, 1) := dc_29 (by decide +kernel)
theorem dX12_greatest_56 : decode cX12_greatest 56 = .ok (.invokestatic 124, 3) := dc_184 0 124 (by decide +kernel)
theorem dX12_greatest_59 : decode cX12_greatest 59 = .ok (.iconst 1, 1) := dc_4 (by decide +kernel)
theorem dX12_greatest_60 : decode cX12_greatest 60 = .ok (.if_icmp .le 18, 3) := dc_164 0 18 18 (by decide +kernel)
theorem dX12_greatest_63 : decode cX12_greatest 63 = .ok (.iload_n 3, 1) := dc_29 (by decide +kernel)
theorem dX12_greatest_64 : decode cX12_greatest 64 = .ok (.invokestatic 124, 3) := dc_184 0 124 (by decide +kernel)
theorem dX12_greatest_67 : decode cX12_greatest 67 = .ok (.iload_n 2, 1) := dc_28 (by decide +kernel)
theorem dX12_greatest_68 : decode cX12_greatest 68 = .ok (.invokestatic 124, 3) := dc_184 0 124 (by decide +kernel)
theorem dX12_greatest_71 : decode cX12_greatest 71 = .ok (.if_icmp .le 7, 3) := dc_164 0 7 7 (by decide +kernel)
theorem dX12_greatest_74 : decode cX12_greatest 74 = .ok (.iconst 1, 1) := dc_4 (by decide +kernel)
theorem dX12_greatest_75 : decode cX12_greatest 75 = .ok (.goto 4, 3) := dc_167 0 4 4 (by decide +kernel)
theorem dX12_greatest_86 : decode cX12_greatest 86 = .ok (.aload_n 0, 1) := dc_42 (by decide +kernel)
theorem dX12_greatest_87 : decode cX12_greatest 87 = .ok (.iload_n 3, 1) := dc_29 (by decide +kernel)
theorem dX12_greatest_88 : decode cX12_greatest 88 = .ok (.invokevirtual 291, 3) := dc_182 1 35 (by decide +kernel)
theorem dX12_greatest_91 : decode cX12_greatest 91 = .ok (.ifCond .eq 7, 3) := dc_153 0 7 7 (by decide +kernel)
theorem dX12_greatest_94 : decode cX12_greatest 94 = .ok (.iload_n 3, 1) := dc_29 (by decide +kernel)
theorem dX12_greatest_95 : decode cX12_greatest 95 = .ok (.goto 4, 3) := dc_167 0 4 4 (by decide +kernel)
theorem dX12_greatest_106 : decode cX12_greatest 106 = .ok (.iload_n 2, 1) := dc_28 (by decide +kernel)
theorem dX12_greatest_107 : decode cX12_greatest 107 = .ok (.ireturn, 1) := dc_172 (by decide +kernel)
abbrev R_X12_greatest : Room := { frames := 2, cells := 0, slots := 0, locals := 51 }
set_option maxRecDepth 100000 in
set_option maxHeartbeats 4000000 in
theorem s_X12_greatest {l : Launch} {n0 : Nat} {D : va_G} {cA : Nat → ClassId} {M : gM}  {sz : Nat} (hsz : 206 ≤ sz) (I : gI sz M) (C : gC sz M)   : Met l yX12_greatest (gWsOf yX12_greatest cX12_greatest 5 (Option.some Jvm.ClassFile.FieldType.int)) R_X12_greatest (gPc n0 D cA [gA n0 190] M sz) (gQi n0 D cA sz (fun z M1 => M = M1 ∧ (0 ≤ z ∧ z ≤ 255))) 0 0 (fun q => n0 ≤ q) := by
  refine gMetI [gA n0 190] (by decide) (Nat.le_of_ble_eq_true rfl) ⟨rfl, rfl⟩ ?_
  intro p e s m args below meth cd Q X hq
  have X : gCx p s m args meth cd n0 D cA "ParishUnionModel" cX12_greatest 5 := X
  show G p l e R_X12_greatest s m args below meth cd n0 D cA 5 Q 0 0 M sz 0 [(0, gA n0 190)] []
  refine g_iconst (n := 1) X dX12_greatest_0 rfl ?_
  refine g_istore_n (n := 2) (L' := [(1, gJ 0), (0, gA n0 190)]) X dX12_greatest_1 rfl (by decide) rfl rfl ?_
  refine g_iconst (n := 3) X dX12_greatest_2 rfl ?_
  refine g_istore_n (n := 4) (L' := [(2, gJ 0), (1, gJ 0), (0, gA n0 190)]) X dX12_greatest_3 rfl (by decide) rfl rfl ?_
  have j4 : ∀ (N3605 : Nat) (v1 v2 : Int) , (-2147483648 ≤ v1 ∧ v1 ≤ 2147483647) → (0 ≤ v2 ∧ v2 ≤ 40) → (40 - v2).toNat < N3605 → G p l e R_X12_greatest s m args below meth cd n0 D cA 5 Q 0 0 M sz 4 [(0, gA n0 190), (1, gJ v1), (2, gJ v2)] [] := by
    intro N3605; induction N3605 with
    | zero => intro v1 v2 rv1 rv2 hm3607; exfalso; omega
    | succ N3605 ih3606 =>
      intro v1 v2 rv1 rv2 hm3607
      refine g_iload_n (n := 5) X 2 dX12_greatest_4 rfl rfl rfl ?_
      refine g_aload_n (n := 6) X 0 dX12_greatest_5 rfl rfl rfl ?_
      refine gg_12_1 (n := 9) (z := 191) X (by decide) (gsz hsz (by decide)) lay_190 kw_6_27 dX12_greatest_6 rfl (rf_190_1 I (gsz hsz (by decide))) (by decide) ?_
      refine g_bipush (n := 11) X dX12_greatest_9 (by decide +kernel) rfl ?_
      obtain ⟨v3608, hv3608, rv3608⟩ := gRd I (by decide) (gsz hsz (by decide)) (rs_NN (k := 6) (by omega)).1
      refine g_iald2 (n := 12) (v := v3608) X (by decide) (gsz hsz (by decide)) lay_191 (by omega) (by omega) (by decide) dX12_greatest_11 rfl hv3608 ?_
      refine g_icmp_ge (n := 15) (tgt := 36) X dX12_greatest_12 (by decide) (by omega) (by omega) rfl (fun c3609 => ?_) (fun c3609 => ?_)
      · refine g_iconst (n := 37) X dX12_greatest_36 rfl ?_
        refine g_istore_n (n := 38) (L' := [(2, gJ 0), (0, gA n0 190), (1, gJ v1)]) X dX12_greatest_37 rfl (by decide) rfl rfl ?_
        refine g_iconst (n := 39) X dX12_greatest_38 rfl ?_
        refine g_istore_n (n := 40) (L' := [(3, gJ 1), (2, gJ 0), (0, gA n0 190), (1, gJ v1)]) X dX12_greatest_39 rfl (by decide) rfl rfl ?_
        have j3616 : ∀ (N3939 : Nat) (v3613 v3614 : Int) , (0 ≤ v3613 ∧ v3613 ≤ 255) → (1 ≤ v3614 ∧ v3614 ≤ 256) → (256 - v3614).toNat < N3939 → G p l e R_X12_greatest s m args below meth cd n0 D cA 5 Q 0 0 M sz 40 [(0, gA n0 190), (1, gJ v1), (2, gJ v3613), (3, gJ v3614)] [] := by
          intro N3939; induction N3939 with
          | zero => intro v3613 v3614 rv3613 rv3614 hm3941; exfalso; omega
          | succ N3939 ih3940 =>
            intro v3613 v3614 rv3613 rv3614 hm3941
            refine g_iload_n (n := 41) X 3 dX12_greatest_40 rfl rfl rfl ?_
            refine g_sipush (n := 44) X dX12_greatest_41 (by decide +kernel) rfl ?_
            refine g_icmp_ge (n := 47) (tgt := 106) X dX12_greatest_44 (by decide) (by omega) (by omega) rfl (fun c3942 => ?_) (fun c3942 => ?_)
            · refine g_iload_n (n := 107) X 2 dX12_greatest_106 rfl rfl rfl ?_
              exact hq _ _ _ _ dX12_greatest_107 ⟨rfl, by omega⟩
            · refine g_iload_n (n := 48) X 3 dX12_greatest_47 rfl rfl rfl ?_
              refine g_iload_n (n := 49) X 1 dX12_greatest_48 rfl rfl rfl ?_
              refine g_iconst (n := 50) X dX12_greatest_49 rfl ?_
              refine g_ixorA (n := 51) X dX12_greatest_50 rfl (fun v3943 rv3943 xv3943 => ?_)
              clear xv3943
              refine g_iandA (n := 52) X dX12_greatest_51 rfl (fun v3944 rv3944 xv3944 => ?_)
              clear xv3944
              refine g_if_ne (n := 55) (tgt := 78) X dX12_greatest_52 (by decide) (by omega) rfl (fun c3945 => ?_) (fun c3945 => ?_)
              · refine g_iconst (n := 79) X dX12_greatest_78 rfl ?_
                refine g_istore (n := 81) (L' := [(4, gJ 0), (0, gA n0 190), (1, gJ v1), (2, gJ v3613), (3, gJ v3614)]) X dX12_greatest_79 (by decide) rfl rfl ?_
                refine g_iload (n := 83) X 0 dX12_greatest_81 rfl rfl ?_
                refine g_if_eq (n := 86) (tgt := 98) X dX12_greatest_83 (by decide) (by omega) rfl (fun c3946 => ?_) (fun c3946 => by exfalso; omega)
                refine g_iload_n (n := 99) X 3 dX12_greatest_98 rfl rfl rfl ?_
                refine g_istore_n (n := 100) (L' := [(2, gJ v3613), (4, gJ 0), (0, gA n0 190), (1, gJ v1), (3, gJ v3614)]) X dX12_greatest_99 rfl (by decide) rfl rfl ?_
                refine g_iinc (n := 103) (w := v3614 + 1) (L' := [(3, gJ (v3614 + 1)), (2, gJ v3613), (4, gJ 0), (0, gA n0 190), (1, gJ v1)]) X 4 dX12_greatest_100 rfl rfl (by decide) rfl rfl ?_
                refine g_goto (tgt := 40) X dX12_greatest_103 (by decide) ?_
                refine G.sub (L' := [(0, gA n0 190), (1, gJ v1), (2, gJ v3613), (3, gJ (v3614 + 1))]) [3, 4, 1, 0] rfl ?_
                exact ih3940 v3613 (v3614 + 1) (by omega) (by omega) (by omega)
              · refine g_iload_n (n := 56) X 3 dX12_greatest_55 rfl rfl rfl ?_
                refine g_callSi (n := 59) (As := [gJ v3614]) (rest := []) (cs1 := 0) (ss1 := 0) X (s_X12_many v3614 (by omega) hsz I C ) okX12_many kw_6_224 kw_6_225 ⟨rfl, rfl⟩ ⟨Nat.le_of_ble_eq_true rfl, Nat.le_of_ble_eq_true rfl⟩ rfl rfl (Nat.le_of_ble_eq_true rfl) ⟨Nat.le_of_ble_eq_true rfl, Nat.le_of_ble_eq_true rfl⟩ rfl rfl dX12_greatest_56 rfl (fun v3947 M3948 P3949 => ?_)
                obtain ⟨rfl, rv3947⟩ := P3949
                refine g_iconst (n := 60) X dX12_greatest_59 rfl ?_
                refine g_icmp_le (n := 63) (tgt := 78) X dX12_greatest_60 (by decide) (by omega) (by omega) rfl (fun c3950 => ?_) (fun c3950 => ?_)
                · refine g_iconst (n := 79) X dX12_greatest_78 rfl ?_
                  refine g_istore (n := 81) (L' := [(4, gJ 0), (0, gA n0 190), (1, gJ v1), (2, gJ v3613), (3, gJ v3614)]) X dX12_greatest_79 (by decide) rfl rfl ?_
                  refine g_iload (n := 83) X 0 dX12_greatest_81 rfl rfl ?_
                  refine g_if_eq (n := 86) (tgt := 98) X dX12_greatest_83 (by decide) (by omega) rfl (fun c3951 => ?_) (fun c3951 => by exfalso; omega)
                  refine g_iload_n (n := 99) X 3 dX12_greatest_98 rfl rfl rfl ?_
                  refine g_istore_n (n := 100) (L' := [(2, gJ v3613), (4, gJ 0), (0, gA n0 190), (1, gJ v1), (3, gJ v3614)]) X dX12_greatest_99 rfl (by decide) rfl rfl ?_
                  refine g_iinc (n := 103) (w := v3614 + 1) (L' := [(3, gJ (v3614 + 1)), (2, gJ v3613), (4, gJ 0), (0, gA n0 190), (1, gJ v1)]) X 4 dX12_greatest_100 rfl rfl (by decide) rfl rfl ?_
                  refine g_goto (tgt := 40) X dX12_greatest_103 (by decide) ?_
                  refine G.sub (L' := [(0, gA n0 190), (1, gJ v1), (2, gJ v3613), (3, gJ (v3614 + 1))]) [3, 4, 1, 0] rfl ?_
                  exact ih3940 v3613 (v3614 + 1) (by omega) (by omega) (by omega)
                · refine g_iload_n (n := 64) X 3 dX12_greatest_63 rfl rfl rfl ?_
                  refine g_callSi (n := 67) (As := [gJ v3614]) (rest := []) (cs1 := 0) (ss1 := 0) X (s_X12_many v3614 (by omega) hsz I C ) okX12_many kw_6_224 kw_6_225 ⟨rfl, rfl⟩ ⟨Nat.le_of_ble_eq_true rfl, Nat.le_of_ble_eq_true rfl⟩ rfl rfl (Nat.le_of_ble_eq_true rfl) ⟨Nat.le_of_ble_eq_true rfl, Nat.le_of_ble_eq_true rfl⟩ rfl rfl dX12_greatest_64 rfl (fun v3952 M3953 P3954 => ?_)
                  obtain ⟨rfl, rv3952⟩ := P3954
                  refine g_iload_n (n := 68) X 2 dX12_greatest_67 rfl rfl rfl ?_
                  refine g_callSi (n := 71) (As := [gJ v3613]) (rest := [gJ v3952]) (cs1 := 0) (ss1 := 0) X (s_X12_many v3613 (by omega) hsz I C ) okX12_many kw_6_224 kw_6_225 ⟨rfl, rfl⟩ ⟨Nat.le_of_ble_eq_true rfl, Nat.le_of_ble_eq_true rfl⟩ rfl rfl (Nat.le_of_ble_eq_true rfl) ⟨Nat.le_of_ble_eq_true rfl, Nat.le_of_ble_eq_true rfl⟩ rfl rfl dX12_greatest_68 rfl (fun v3955 M3956 P3957 => ?_)
                  obtain ⟨rfl, rv3955⟩ := P3957
                  refine g_icmp_le (n := 74) (tgt := 78) X dX12_greatest_71 (by decide) (by omega) (by omega) rfl (fun c3958 => ?_) (fun c3958 => ?_)
                  · refine g_iconst (n := 79) X dX12_greatest_78 rfl ?_
                    refine g_istore (n := 81) (L' := [(4, gJ 0), (0, gA n0 190), (1, gJ v1), (2, gJ v3613), (3, gJ v3614)]) X dX12_greatest_79 (by decide) rfl rfl ?_
                    refine g_iload (n := 83) X 0 dX12_greatest_81 rfl rfl ?_
                    refine g_if_eq (n := 86) (tgt := 98) X dX12_greatest_83 (by decide) (by omega) rfl (fun c3959 => ?_) (fun c3959 => by exfalso; omega)
                    refine g_iload_n (n := 99) X 3 dX12_greatest_98 rfl rfl rfl ?_
                    refine g_istore_n (n := 100) (L' := [(2, gJ v3613), (4, gJ 0), (0, gA n0 190), (1, gJ v1), (3, gJ v3614)]) X dX12_greatest_99 rfl (by decide) rfl rfl ?_
                    refine g_iinc (n := 103) (w := v3614 + 1) (L' := [(3, gJ (v3614 + 1)), (2, gJ v3613), (4, gJ 0), (0, gA n0 190), (1, gJ v1)]) X 4 dX12_greatest_100 rfl rfl (by decide) rfl rfl ?_
                    refine g_goto (tgt := 40) X dX12_greatest_103 (by decide) ?_
                    refine G.sub (L' := [(0, gA n0 190), (1, gJ v1), (2, gJ v3613), (3, gJ (v3614 + 1))]) [3, 4, 1, 0] rfl ?_
                    exact ih3940 v3613 (v3614 + 1) (by omega) (by omega) (by omega)
                  · refine g_iconst (n := 75) X dX12_greatest_74 rfl ?_
                    refine g_goto (tgt := 79) X dX12_greatest_75 (by decide) ?_
                    refine g_istore (n := 81) (L' := [(4, gJ 1), (0, gA n0 190), (1, gJ v1), (2, gJ v3613), (3, gJ v3614)]) X dX12_greatest_79 (by decide) rfl rfl ?_
                    refine g_iload (n := 83) X 0 dX12_greatest_81 rfl rfl ?_
                    refine g_if_eq (n := 86) (tgt := 98) X dX12_greatest_83 (by decide) (by omega) rfl (fun c3960 => by exfalso; omega) (fun c3960 => ?_)
                    refine g_aload_n (n := 87) X 1 dX12_greatest_86 rfl rfl rfl ?_
                    refine g_iload_n (n := 88) X 4 dX12_greatest_87 rfl rfl rfl ?_
                    refine g_callVi (n := 91) (As := [gJ v3614]) (rest := []) (cs1 := 0) (ss1 := 0) X (s_X12_isOne v3614 (by omega) hsz I C ) okX12_isOne kw_7_208 ⟨kw_7_210, kw_0_85⟩ ⟨rfl, rfl⟩ ⟨Nat.le_of_ble_eq_true rfl, Nat.le_of_ble_eq_true rfl⟩ rfl (by decide) (gsz hsz (by decide)) lay_190 rfl rfl (Nat.le_of_ble_eq_true rfl) ⟨Nat.le_of_ble_eq_true rfl, Nat.le_of_ble_eq_true rfl⟩ rfl rfl dX12_greatest_88 rfl (fun v3961 M3962 P3963 => ?_)
                    obtain ⟨rfl, rv3961⟩ := P3963
                    refine g_if_eq (n := 94) (tgt := 98) X dX12_greatest_91 (by decide) (by omega) rfl (fun c3964 => ?_) (fun c3964 => ?_)
                    · refine g_iload_n (n := 99) X 3 dX12_greatest_98 rfl rfl rfl ?_
                      refine g_istore_n (n := 100) (L' := [(2, gJ v3613), (4, gJ 1), (0, gA n0 190), (1, gJ v1), (3, gJ v3614)]) X dX12_greatest_99 rfl (by decide) rfl rfl ?_
                      refine g_iinc (n := 103) (w := v3614 + 1) (L' := [(3, gJ (v3614 + 1)), (2, gJ v3613), (4, gJ 1), (0, gA n0 190), (1, gJ v1)]) X 4 dX12_greatest_100 rfl rfl (by decide) rfl rfl ?_
                      refine g_goto (tgt := 40) X dX12_greatest_103 (by decide) ?_
                      refine G.sub (L' := [(0, gA n0 190), (1, gJ v1), (2, gJ v3613), (3, gJ (v3614 + 1))]) [3, 4, 1, 0] rfl ?_
                      exact ih3940 v3613 (v3614 + 1) (by omega) (by omega) (by omega)
                    · refine g_iload_n (n := 95) X 4 dX12_greatest_94 rfl rfl rfl ?_
                      refine g_goto (tgt := 99) X dX12_greatest_95 (by decide) ?_
                      refine g_istore_n (n := 100) (L' := [(2, gJ v3614), (4, gJ 1), (0, gA n0 190), (1, gJ v1), (3, gJ v3614)]) X dX12_greatest_99 rfl (by decide) rfl rfl ?_
                      refine g_iinc (n := 103) (w := v3614 + 1) (L' := [(3, gJ (v3614 + 1)), (2, gJ v3614), (4, gJ 1), (0, gA n0 190), (1, gJ v1)]) X 4 dX12_greatest_100 rfl rfl (by decide) rfl rfl ?_
                      refine g_goto (tgt := 40) X dX12_greatest_103 (by decide) ?_
                      refine G.sub (L' := [(0, gA n0 190), (1, gJ v1), (2, gJ v3614), (3, gJ (v3614 + 1))]) [3, 4, 1, 0] rfl ?_
                      exact ih3940 v3614 (v3614 + 1) (by omega) (by omega) (by omega)
        refine G.sub (L' := [(0, gA n0 190), (1, gJ v1), (2, gJ 0), (3, gJ 1)]) [2, 3, 1, 0] rfl ?_
        exact j3616 _ 0 1 (by omega) (by omega) (Nat.lt_succ_self _)
      · refine g_iload_n (n := 16) X 1 dX12_greatest_15 rfl rfl rfl ?_
        refine g_iconst (n := 17) X dX12_greatest_16 rfl ?_
        refine g_aload_n (n := 18) X 0 dX12_greatest_17 rfl rfl rfl ?_
        refine gg_12_1 (n := 21) (z := 191) X (by decide) (gsz hsz (by decide)) lay_190 kw_6_27 dX12_greatest_18 rfl (rf_190_1 I (gsz hsz (by decide))) (by decide) ?_
        refine g_sipush (n := 24) X dX12_greatest_21 (by decide +kernel) rfl ?_
        refine g_iload_n (n := 25) X 2 dX12_greatest_24 rfl rfl rfl ?_
        refine g_iadd (n := 26) (z := v2 + 2440) X dX12_greatest_25 (by omega) rfl ?_
        obtain ⟨v3965, hv3965, rv3965⟩ := gRd I (by decide) (gsz hsz (by decide)) (rs_NNAME (k := v2 + 2440) (by omega)).1
        refine g_iald2 (n := 27) (v := v3965) X (by decide) (gsz hsz (by decide)) lay_191 (by omega) (by omega) (by decide) dX12_greatest_26 rfl hv3965 ?_
        refine g_ishlA (n := 28) X dX12_greatest_27 rfl (fun v3966 rv3966 xv3966 => ?_)
        clear xv3966
        refine g_iorA (n := 29) X dX12_greatest_28 rfl (fun v3967 rv3967 xv3967 => ?_)
        clear xv3967
        refine g_istore_n (n := 30) (L' := [(1, gJ v3967), (0, gA n0 190), (2, gJ v2)]) X dX12_greatest_29 rfl (by decide) rfl rfl ?_
        refine g_iinc (n := 33) (w := v2 + 1) (L' := [(2, gJ (v2 + 1)), (1, gJ v3967), (0, gA n0 190)]) X 2 dX12_greatest_30 rfl rfl (by decide) rfl rfl ?_
        refine g_goto (tgt := 4) X dX12_greatest_33 (by decide) ?_
        refine G.sub (L' := [(0, gA n0 190), (1, gJ v3967), (2, gJ (v2 + 1))]) [2, 1, 0] rfl ?_
        exact ih3606 v3967 (v2 + 1) (by omega) (by omega) (by omega)
  refine G.sub (L' := [(0, gA n0 190), (1, gJ 0), (2, gJ 0)]) [2, 1, 0] rfl ?_
  exact j4 _ 0 0 (by omega) (by omega) (Nat.lt_succ_self _)
