theorem dX12_road_0 : decode cX12_road 0 = .ok (.iload_n 1, 1) := by decide +kernel
theorem dX12_road_1 : decode cX12_road 1 = .ok (.invokestatic 68, 3) := by decide +kernel
theorem dX12_road_4 : decode cX12_road 4 = .ok (.ifCond .eq 10, 3) := by decide +kernel
theorem dX12_road_14 : decode cX12_road 14 = .ok (.iconst (-1), 1) := by decide +kernel
theorem dX12_road_15 : decode cX12_road 15 = .ok (.ireturn, 1) := by decide +kernel
theorem dX12_road_7 : decode cX12_road 7 = .ok (.iload_n 2, 1) := by decide +kernel
theorem dX12_road_8 : decode cX12_road 8 = .ok (.invokestatic 68, 3) := by decide +kernel
theorem dX12_road_11 : decode cX12_road 11 = .ok (.ifCond .ne 5, 3) := by decide +kernel
theorem dX12_road_16 : decode cX12_road 16 = .ok (.iload_n 1, 1) := by decide +kernel
theorem dX12_road_17 : decode cX12_road 17 = .ok (.iload_n 2, 1) := by decide +kernel
theorem dX12_road_18 : decode cX12_road 18 = .ok (.if_icmp .eq 13, 3) := by decide +kernel
theorem dX12_road_31 : decode cX12_road 31 = .ok (.bipush (-2), 2) := by decide +kernel
theorem dX12_road_33 : decode cX12_road 33 = .ok (.ireturn, 1) := by decide +kernel
theorem dX12_road_21 : decode cX12_road 21 = .ok (.iload_n 3, 1) := by decide +kernel
theorem dX12_road_22 : decode cX12_road 22 = .ok (.iconst 1, 1) := by decide +kernel
theorem dX12_road_23 : decode cX12_road 23 = .ok (.bipush 9, 2) := by decide +kernel
theorem dX12_road_25 : decode cX12_road 25 = .ok (.invokestatic 64, 3) := by decide +kernel
theorem dX12_road_28 : decode cX12_road 28 = .ok (.ifCond .ne 6, 3) := by decide +kernel
theorem dX12_road_34 : decode cX12_road 34 = .ok (.iconst 0, 1) := by decide +kernel
theorem dX12_road_35 : decode cX12_road 35 = .ok (.istore 4, 2) := by decide +kernel
theorem dX12_road_37 : decode cX12_road 37 = .ok (.iconst 0, 1) := by decide +kernel
theorem dX12_road_38 : decode cX12_road 38 = .ok (.istore 5, 2) := by decide +kernel
theorem dX12_road_40 : decode cX12_road 40 = .ok (.iload 5, 2) := by decide +kernel
theorem dX12_road_42 : decode cX12_road 42 = .ok (.bipush 6, 2) := by decide +kernel
theorem dX12_road_44 : decode cX12_road 44 = .ok (.if_icmp .ge 134, 3) := by decide +kernel
theorem dX12_road_178 : decode cX12_road 178 = .ok (.iconst 0, 1) := by decide +kernel
theorem dX12_road_179 : decode cX12_road 179 = .ok (.istore 5, 2) := by decide +kernel
theorem dX12_road_181 : decode cX12_road 181 = .ok (.iload 5, 2) := by decide +kernel
theorem dX12_road_183 : decode cX12_road 183 = .ok (.bipush 36, 2) := by decide +kernel
theorem dX12_road_185 : decode cX12_road 185 = .ok (.if_icmp .ge 26, 3) := by decide +kernel
theorem dX12_road_211 : decode cX12_road 211 = .ok (.iload 4, 2) := by decide +kernel
theorem dX12_road_213 : decode cX12_road 213 = .ok (.ireturn, 1) := by decide +kernel
theorem dX12_road_188 : decode cX12_road 188 = .ok (.aload_n 0, 1) := by decide +kernel
theorem dX12_road_189 : decode cX12_road 189 = .ok (.getfield 7, 3) := by decide +kernel
theorem dX12_road_192 : decode cX12_road 192 = .ok (.bipush 24, 2) := by decide +kernel
theorem dX12_road_194 : decode cX12_road 194 = .ok (.iload 5, 2) := by decide +kernel
theorem dX12_road_196 : decode cX12_road 196 = .ok (.iadd, 1) := by decide +kernel
theorem dX12_road_197 : decode cX12_road 197 = .ok (.aload_n 0, 1) := by decide +kernel
theorem dX12_road_198 : decode cX12_road 198 = .ok (.getfield 19, 3) := by decide +kernel
theorem kw_6_31 : (Jvm.Cond.fieldLink "ParishUnionModel" (19 : Nat) "ParishUnionModel" "fresh" "[I") ∈ gT := gT_of (tb_6 _ (List.mem_of_getElem? (i := 31) rfl)) rfl
theorem dX12_road_201 : decode cX12_road 201 = .ok (.iload 5, 2) := by decide +kernel
theorem dX12_road_203 : decode cX12_road 203 = .ok (.iaload, 1) := by decide +kernel
theorem dX12_road_204 : decode cX12_road 204 = .ok (.iastore, 1) := by decide +kernel
theorem dX12_road_205 : decode cX12_road 205 = .ok (.iinc 5 1, 3) := by decide +kernel
theorem dX12_road_208 : decode cX12_road 208 = .ok (.goto (-27), 3) := by decide +kernel
theorem dX12_road_47 : decode cX12_road 47 = .ok (.iconst 0, 1) := by decide +kernel
theorem dX12_road_48 : decode cX12_road 48 = .ok (.istore 6, 2) := by decide +kernel
theorem dX12_road_50 : decode cX12_road 50 = .ok (.iload 6, 2) := by decide +kernel
theorem dX12_road_52 : decode cX12_road 52 = .ok (.bipush 6, 2) := by decide +kernel
theorem dX12_road_54 : decode cX12_road 54 = .ok (.if_icmp .ge 118, 3) := by decide +kernel
theorem dX12_road_172 : decode cX12_road 172 = .ok (.iinc 5 1, 3) := by decide +kernel
theorem dX12_road_175 : decode cX12_road 175 = .ok (.goto (-135), 3) := by decide +kernel
theorem dX12_road_57 : decode cX12_road 57 = .ok (.aload_n 0, 1) := by decide +kernel
theorem dX12_road_58 : decode cX12_road 58 = .ok (.iload 5, 2) := by decide +kernel
theorem dX12_road_60 : decode cX12_road 60 = .ok (.iload_n 1, 1) := by decide +kernel
theorem dX12_road_61 : decode cX12_road 61 = .ok (.invokevirtual 72, 3) := by decide +kernel
theorem dX12_road_64 : decode cX12_road 64 = .ok (.iload_n 3, 1) := by decide +kernel
theorem dX12_road_65 : decode cX12_road 65 = .ok (.iadd, 1) := by decide +kernel
theorem dX12_road_66 : decode cX12_road 66 = .ok (.aload_n 0, 1) := by decide +kernel
theorem dX12_road_67 : decode cX12_road 67 = .ok (.iload_n 2, 1) := by decide +kernel
theorem dX12_road_68 : decode cX12_road 68 = .ok (.iload 6, 2) := by decide +kernel
theorem dX12_road_70 : decode cX12_road 70 = .ok (.invokevirtual 72, 3) := by decide +kernel
theorem dX12_road_73 : decode cX12_road 73 = .ok (.iadd, 1) := by decide +kernel
theorem dX12_road_74 : decode cX12_road 74 = .ok (.istore 7, 2) := by decide +kernel
theorem dX12_road_76 : decode cX12_road 76 = .ok (.aload_n 0, 1) := by decide +kernel
theorem dX12_road_77 : decode cX12_road 77 = .ok (.iload 5, 2) := by decide +kernel
theorem dX12_road_79 : decode cX12_road 79 = .ok (.iload_n 2, 1) := by decide +kernel
theorem dX12_road_80 : decode cX12_road 80 = .ok (.invokevirtual 72, 3) := by decide +kernel
theorem dX12_road_83 : decode cX12_road 83 = .ok (.iload_n 3, 1) := by decide +kernel
theorem dX12_road_84 : decode cX12_road 84 = .ok (.iadd, 1) := by decide +kernel
theorem dX12_road_85 : decode cX12_road 85 = .ok (.aload_n 0, 1) := by decide +kernel
theorem dX12_road_86 : decode cX12_road 86 = .ok (.iload_n 1, 1) := by decide +kernel
theorem dX12_road_87 : decode cX12_road 87 = .ok (.iload 6, 2) := by decide +kernel
theorem dX12_road_89 : decode cX12_road 89 = .ok (.invokevirtual 72, 3) := by decide +kernel
theorem dX12_road_92 : decode cX12_road 92 = .ok (.iadd, 1) := by decide +kernel
theorem dX12_road_93 : decode cX12_road 93 = .ok (.istore 8, 2) := by decide +kernel
theorem dX12_road_95 : decode cX12_road 95 = .ok (.iload 7, 2) := by decide +kernel
theorem dX12_road_97 : decode cX12_road 97 = .ok (.iload 8, 2) := by decide +kernel
theorem dX12_road_99 : decode cX12_road 99 = .ok (.if_icmp .ge 8, 3) := by decide +kernel
theorem dX12_road_107 : decode cX12_road 107 = .ok (.iload 8, 2) := by decide +kernel
theorem dX12_road_109 : decode cX12_road 109 = .ok (.istore 9, 2) := by decide +kernel
theorem dX12_road_111 : decode cX12_road 111 = .ok (.iload 9, 2) := by decide +kernel
theorem dX12_road_113 : decode cX12_road 113 = .ok (.aload_n 0, 1) := by decide +kernel
theorem dX12_road_114 : decode cX12_road 114 = .ok (.iload 5, 2) := by decide +kernel
theorem dX12_road_116 : decode cX12_road 116 = .ok (.iload 6, 2) := by decide +kernel
theorem dX12_road_118 : decode cX12_road 118 = .ok (.invokevirtual 72, 3) := by decide +kernel
theorem dX12_road_121 : decode cX12_road 121 = .ok (.if_icmp .ge 24, 3) := by decide +kernel
theorem dX12_road_145 : decode cX12_road 145 = .ok (.aload_n 0, 1) := by decide +kernel
theorem dX12_road_146 : decode cX12_road 146 = .ok (.getfield 19, 3) := by decide +kernel
theorem dX12_road_149 : decode cX12_road 149 = .ok (.bipush 6, 2) := by decide +kernel
theorem dX12_road_151 : decode cX12_road 151 = .ok (.iload 5, 2) := by decide +kernel
theorem dX12_road_153 : decode cX12_road 153 = .ok (.imul, 1) := by decide +kernel
theorem dX12_road_154 : decode cX12_road 154 = .ok (.iload 6, 2) := by decide +kernel
theorem dX12_road_156 : decode cX12_road 156 = .ok (.iadd, 1) := by decide +kernel
theorem dX12_road_157 : decode cX12_road 157 = .ok (.aload_n 0, 1) := by decide +kernel
theorem dX12_road_158 : decode cX12_road 158 = .ok (.iload 5, 2) := by decide +kernel
theorem dX12_road_160 : decode cX12_road 160 = .ok (.iload 6, 2) := by decide +kernel
theorem dX12_road_162 : decode cX12_road 162 = .ok (.invokevirtual 72, 3) := by decide +kernel
theorem dX12_road_165 : decode cX12_road 165 = .ok (.iastore, 1) := by decide +kernel
theorem dX12_road_166 : decode cX12_road 166 = .ok (.iinc 6 1, 3) := by decide +kernel
theorem dX12_road_169 : decode cX12_road 169 = .ok (.goto (-119), 3) := by decide +kernel
theorem dX12_road_124 : decode cX12_road 124 = .ok (.iconst 1, 1) := by decide +kernel
theorem dX12_road_125 : decode cX12_road 125 = .ok (.istore 4, 2) := by decide +kernel
theorem dX12_road_127 : decode cX12_road 127 = .ok (.aload_n 0, 1) := by decide +kernel
theorem dX12_road_128 : decode cX12_road 128 = .ok (.getfield 19, 3) := by decide +kernel
theorem dX12_road_131 : decode cX12_road 131 = .ok (.bipush 6, 2) := by decide +kernel
theorem dX12_road_133 : decode cX12_road 133 = .ok (.iload 5, 2) := by decide +kernel
theorem dX12_road_135 : decode cX12_road 135 = .ok (.imul, 1) := by decide +kernel
theorem dX12_road_136 : decode cX12_road 136 = .ok (.iload 6, 2) := by decide +kernel
theorem dX12_road_138 : decode cX12_road 138 = .ok (.iadd, 1) := by decide +kernel
theorem dX12_road_139 : decode cX12_road 139 = .ok (.iload 9, 2) := by decide +kernel
theorem dX12_road_141 : decode cX12_road 141 = .ok (.iastore, 1) := by decide +kernel
theorem dX12_road_142 : decode cX12_road 142 = .ok (.goto 24, 3) := by decide +kernel
theorem dX12_road_102 : decode cX12_road 102 = .ok (.iload 7, 2) := by decide +kernel
theorem dX12_road_104 : decode cX12_road 104 = .ok (.goto 5, 3) := by decide +kernel
set_option maxRecDepth 100000 in
set_option maxHeartbeats 4000000 in
theorem c_X12_road {l : Launch} {n0 : Nat} {D : va_G} {cA : Nat → ClassId} {M : gM} (a b g : Int) (r_a : -2147483648 ≤ a ∧ a ≤ 2147483647) (r_b : -2147483648 ≤ b ∧ b ≤ 2147483647) (r_g : -2147483648 ≤ g ∧ g ≤ 2147483647) {sz : Nat} (hsz : 206 ≤ sz) (f_190_1 : M 190 1 = 192) (f_190_5 : M 190 5 = 195) (hS : ∀ i : Int, 0 ≤ i → i < 25301 → M 191 i = gS0 i) : Met l yX12_road (gWsOf yX12_road cX12_road 10 (Option.some Jvm.ClassFile.FieldType.int)) { frames := 2, cells := 0, slots := 0, locals := 42 } (gPc n0 D cA [gA n0 190, gJ a, gJ b, gJ g] M sz) (gQi n0 D cA sz (fun z M1 => (((¬(0 ≤ a ∧ a ≤ 5) ∨ ¬(0 ≤ b ∧ b ≤ 5)) → z = -1) ∧ (¬(¬(0 ≤ a ∧ a ≤ 5) ∨ ¬(0 ≤ b ∧ b ≤ 5)) → (a = b ∨ ¬(1 ≤ g ∧ g ≤ 9)) → z = -2) ∧ (¬(¬(0 ≤ a ∧ a ≤ 5) ∨ ¬(0 ≤ b ∧ b ≤ 5)) → ¬(a = b ∨ ¬(1 ≤ g ∧ g ≤ 9)) → (z = 1))) ∧ ∀ a : Int, a ≠ 191 → a ≠ 194 → M1 a = M a)) 0 0 (fun q => n0 ≤ q) := by
  refine gMet_of [gA n0 190, gJ a, gJ b, gJ g] (by decide) (Nat.le_of_ble_eq_true rfl) ?_
  intro p e s m args below meth cd X hr hm
  have X : gCx p s m args meth cd n0 D cA "ParishUnionModel" cX12_road 10 := X
  show G p l e ({ frames := 2, cells := 0, slots := 0, locals := 42 } : Room) s m args below meth cd n0 D cA 10 (MQ below (gQi n0 D cA sz (fun z M1 => (((¬(0 ≤ a ∧ a ≤ 5) ∨ ¬(0 ≤ b ∧ b ≤ 5)) → z = -1) ∧ (¬(¬(0 ≤ a ∧ a ≤ 5) ∨ ¬(0 ≤ b ∧ b ≤ 5)) → (a = b ∨ ¬(1 ≤ g ∧ g ≤ 9)) → z = -2) ∧ (¬(¬(0 ≤ a ∧ a ≤ 5) ∨ ¬(0 ≤ b ∧ b ≤ 5)) → ¬(a = b ∨ ¬(1 ≤ g ∧ g ≤ 9)) → (z = 1))) ∧ ∀ a : Int, a ≠ 191 → a ≠ 194 → M1 a = M a)) args s 0 0 (fun q => n0 ≤ q)) 0 0 M sz 0 [(0, gA n0 190), (1, gJ a), (2, gJ b), (3, gJ g)] []
  refine g_iload_n (n := 1) X 1 dX12_road_0 rfl rfl rfl ?_
  refine g_callSi (n := 4) (As := [gJ a]) (rest := []) (cs1 := 0) (ss1 := 0) X (c_X12_isParish a (by omega) (by omega)) okX12_isParish kw_6_103 kw_6_104 ⟨rfl, rfl⟩ ⟨Nat.le_of_ble_eq_true rfl, Nat.le_of_ble_eq_true rfl⟩ rfl rfl (Nat.le_of_ble_eq_true rfl) ⟨Nat.le_of_ble_eq_true rfl, Nat.le_of_ble_eq_true rfl⟩ rfl rfl dX12_road_1 rfl (fun z1 M2 P3 => ?_)
  obtain ⟨rfl, P3⟩ := P3
  refine g_if_eq (n := 7) (tgt := 14) X dX12_road_4 (by decide) (by omega) rfl (fun c4 => ?_) (fun c4 => ?_)
  · refine g_iconst (n := 15) X dX12_road_14 rfl ?_
    exact g_ireturn X hr dX12_road_15 (by exact ⟨by omega, fun a h0 h1 => rfl⟩)
  · refine g_iload_n (n := 8) X 2 dX12_road_7 rfl rfl rfl ?_
    refine g_callSi (n := 11) (As := [gJ b]) (rest := []) (cs1 := 0) (ss1 := 0) X (c_X12_isParish b (by omega) (by omega)) okX12_isParish kw_6_103 kw_6_104 ⟨rfl, rfl⟩ ⟨Nat.le_of_ble_eq_true rfl, Nat.le_of_ble_eq_true rfl⟩ rfl rfl (Nat.le_of_ble_eq_true rfl) ⟨Nat.le_of_ble_eq_true rfl, Nat.le_of_ble_eq_true rfl⟩ rfl rfl dX12_road_8 rfl (fun z5 M6 P7 => ?_)
    obtain ⟨rfl, P7⟩ := P7
    refine g_if_ne (n := 14) (tgt := 16) X dX12_road_11 (by decide) (by omega) rfl (fun c8 => ?_) (fun c8 => ?_)
    · refine g_iload_n (n := 17) X 1 dX12_road_16 rfl rfl rfl ?_
      refine g_iload_n (n := 18) X 2 dX12_road_17 rfl rfl rfl ?_
      refine g_icmp_eq (n := 21) (tgt := 31) X dX12_road_18 (by decide) (by omega) (by omega) rfl (fun c9 => ?_) (fun c9 => ?_)
      · refine g_bipush (n := 33) X dX12_road_31 (by decide +kernel) rfl ?_
        exact g_ireturn X hr dX12_road_33 (by exact ⟨by omega, fun a h0 h1 => rfl⟩)
      · refine g_iload_n (n := 22) X 3 dX12_road_21 rfl rfl rfl ?_
        refine g_iconst (n := 23) X dX12_road_22 rfl ?_
        refine g_bipush (n := 25) X dX12_road_23 (by decide +kernel) rfl ?_
        refine g_callSi (n := 28) (As := [gJ g, gJ 1, gJ 9]) (rest := []) (cs1 := 0) (ss1 := 0) X (c_X12_in g 1 9 (by omega) (by omega) (by omega) (by omega)) okX12_in kw_6_106 kw_6_107 ⟨rfl, rfl⟩ ⟨Nat.le_of_ble_eq_true rfl, Nat.le_of_ble_eq_true rfl⟩ rfl rfl (Nat.le_of_ble_eq_true rfl) ⟨Nat.le_of_ble_eq_true rfl, Nat.le_of_ble_eq_true rfl⟩ rfl rfl dX12_road_25 rfl (fun z10 M11 P12 => ?_)
        obtain ⟨rfl, P12⟩ := P12
        refine g_if_ne (n := 31) (tgt := 34) X dX12_road_28 (by decide) (by omega) rfl (fun c13 => ?_) (fun c13 => ?_)
        · refine g_iconst (n := 35) X dX12_road_34 rfl ?_
          refine g_istore (n := 37) (L' := [(4, gJ 0), (0, gA n0 190), (1, gJ a), (2, gJ b), (3, gJ g)]) X dX12_road_35 (by decide) rfl rfl ?_
          refine g_iconst (n := 38) X dX12_road_37 rfl ?_
          refine g_istore (n := 40) (L' := [(5, gJ 0), (4, gJ 0), (0, gA n0 190), (1, gJ a), (2, gJ b), (3, gJ g)]) X dX12_road_38 (by decide) rfl rfl ?_
          have loop14 : ∀ (N16 : Nat) (ch fr : Int) (M18 : gM), (∀ a : Int, a ≠ 194 → M18 a = M a) → ((ch = 0 ∨ ch = 1) ∧ (a * 6 + b < fr * 6 → ch = 1)) → (0 ≤ fr ∧ fr ≤ 6) → (6 - fr).toNat < N16 → G p l e ({ frames := 2, cells := 0, slots := 0, locals := 42 } : Room) s m args below meth cd n0 D cA 10 (MQ below (gQi n0 D cA sz (fun z M1 => (((¬(0 ≤ a ∧ a ≤ 5) ∨ ¬(0 ≤ b ∧ b ≤ 5)) → z = -1) ∧ (¬(¬(0 ≤ a ∧ a ≤ 5) ∨ ¬(0 ≤ b ∧ b ≤ 5)) → (a = b ∨ ¬(1 ≤ g ∧ g ≤ 9)) → z = -2) ∧ (¬(¬(0 ≤ a ∧ a ≤ 5) ∨ ¬(0 ≤ b ∧ b ≤ 5)) → ¬(a = b ∨ ¬(1 ≤ g ∧ g ≤ 9)) → (z = 1))) ∧ ∀ a : Int, a ≠ 191 → a ≠ 194 → M1 a = M a)) args s 0 0 (fun q => n0 ≤ q)) 0 0 M18 sz 40 [(0, gA n0 190), (1, gJ a), (2, gJ b), (3, gJ g), (4, gJ ch), (5, gJ fr)] [] := by
            intro N16; induction N16 with
            | zero => intro ch fr M18 F19 ich ifr hm17; exfalso; omega
            | succ N16 ih15 =>
              intro ch fr M18 F19 ich ifr hm17
              refine g_iload (n := 42) X 5 dX12_road_40 rfl rfl ?_
              refine g_bipush (n := 44) X dX12_road_42 (by decide +kernel) rfl ?_
              refine g_icmp_ge (n := 47) (tgt := 178) X dX12_road_44 (by decide) (by omega) (by omega) rfl (fun c20 => ?_) (fun c20 => ?_)
              · refine g_iconst (n := 179) X dX12_road_178 rfl ?_
                refine g_istore (n := 181) (L' := [(5, gJ 0), (0, gA n0 190), (1, gJ a), (2, gJ b), (3, gJ g), (4, gJ ch)]) X dX12_road_179 (by decide) rfl rfl ?_
                have loop21 : ∀ (N23 : Nat) (k : Int) (M25 : gM), (∀ a : Int, a ≠ 191 → M25 a = M18 a) → (0 ≤ k ∧ k ≤ 36) → (36 - k).toNat < N23 → G p l e ({ frames := 2, cells := 0, slots := 0, locals := 42 } : Room) s m args below meth cd n0 D cA 10 (MQ below (gQi n0 D cA sz (fun z M1 => (((¬(0 ≤ a ∧ a ≤ 5) ∨ ¬(0 ≤ b ∧ b ≤ 5)) → z = -1) ∧ (¬(¬(0 ≤ a ∧ a ≤ 5) ∨ ¬(0 ≤ b ∧ b ≤ 5)) → (a = b ∨ ¬(1 ≤ g ∧ g ≤ 9)) → z = -2) ∧ (¬(¬(0 ≤ a ∧ a ≤ 5) ∨ ¬(0 ≤ b ∧ b ≤ 5)) → ¬(a = b ∨ ¬(1 ≤ g ∧ g ≤ 9)) → (z = 1))) ∧ ∀ a : Int, a ≠ 191 → a ≠ 194 → M1 a = M a)) args s 0 0 (fun q => n0 ≤ q)) 0 0 M25 sz 181 [(0, gA n0 190), (4, gJ ch), (5, gJ k)] [] := by
                  intro N23; induction N23 with
                  | zero => intro k M25 F26 ik hm24; exfalso; omega
                  | succ N23 ih22 =>
                    intro k M25 F26 ik hm24
                    refine g_iload (n := 183) X 2 dX12_road_181 rfl rfl ?_
                    refine g_bipush (n := 185) X dX12_road_183 (by decide +kernel) rfl ?_
                    refine g_icmp_ge (n := 188) (tgt := 211) X dX12_road_185 (by decide) (by omega) (by omega) rfl (fun c27 => ?_) (fun c27 => ?_)
                    · refine g_iload (n := 213) X 1 dX12_road_211 rfl rfl ?_
                      exact g_ireturn X hr dX12_road_213 (by exact ⟨by omega, fun a h0 h1 => ((F26 a (by omega)).trans ((F19 a (by omega)).trans rfl))⟩)
                    · refine g_aload_n (n := 189) X 0 dX12_road_188 rfl rfl rfl ?_
                      refine gg_12_1 (n := 192) (z := 191) X (by omega) (by omega) lay_190 kw_6_27 dX12_road_189 rfl ((congrFun (F26 190 (by omega)) _).trans ((congrFun (F19 190 (by omega)) _).trans f_190_1)) (by omega) ?_
                      refine g_bipush (n := 194) X dX12_road_192 (by decide +kernel) rfl ?_
                      refine g_iload (n := 196) X 2 dX12_road_194 rfl rfl ?_
                      refine g_iadd (n := 197) (z := 24 + k) X dX12_road_196 rfl rfl ?_
                      refine g_aload_n (n := 198) X 0 dX12_road_197 rfl rfl rfl ?_
                      refine gg_12_5 (n := 201) (z := 194) X (by omega) (by omega) lay_190 kw_6_31 dX12_road_198 rfl ((congrFun (F26 190 (by omega)) _).trans ((congrFun (F19 190 (by omega)) _).trans f_190_5)) (by omega) ?_
                      refine g_iload (n := 203) X 2 dX12_road_201 rfl rfl ?_
                      refine g_iald (n := 204) X (by omega) (by omega) lay_194 (by omega) (by omega) (by omega) dX12_road_203 rfl ?_
                      refine g_iast (n := 205) X (by omega) (by omega) lay_191 (by omega) (by omega) (by omega) dX12_road_204 rfl ?_
                      refine G.nm (fun M28 e29 => ?_)
                      refine g_iinc (n := 208) (w := k + 1) (L' := [(5, gJ (k + 1)), (0, gA n0 190), (4, gJ ch)]) X 2 dX12_road_205 rfl rfl (by decide) rfl rfl ?_
                      refine g_goto (tgt := 181) X dX12_road_208 (by decide) ?_
                      refine G.sub (L' := [(0, gA n0 190), (4, gJ ch), (5, gJ (k + 1))]) [1, 2, 0] rfl ?_
                      exact ih22 (k + 1) M28 (fun a h0 => ((congrFun e29 a).trans ((gset_off a (by omega)).trans ((F26 a (by omega)).trans rfl)))) (by omega) (by omega)
                refine G.sub (L' := [(0, gA n0 190), (4, gJ ch), (5, gJ 0)]) [1, 5, 0] rfl ?_
                exact loop21 _ 0 M18 (fun a _ => rfl) (by omega) (Nat.lt_succ_self _)
              · refine g_iconst (n := 48) X dX12_road_47 rfl ?_
                refine g_istore (n := 50) (L' := [(6, gJ 0), (0, gA n0 190), (1, gJ a), (2, gJ b), (3, gJ g), (4, gJ ch), (5, gJ fr)]) X dX12_road_48 (by decide) rfl rfl ?_
                have loop30 : ∀ (N32 : Nat) (ch to : Int) (M34 : gM), (∀ a : Int, a ≠ 194 → M34 a = M18 a) → ((ch = 0 ∨ ch = 1) ∧ (a * 6 + b < fr * 6 + to → ch = 1)) → (0 ≤ to ∧ to ≤ 6) → (6 - to).toNat < N32 → G p l e ({ frames := 2, cells := 0, slots := 0, locals := 42 } : Room) s m args below meth cd n0 D cA 10 (MQ below (gQi n0 D cA sz (fun z M1 => (((¬(0 ≤ a ∧ a ≤ 5) ∨ ¬(0 ≤ b ∧ b ≤ 5)) → z = -1) ∧ (¬(¬(0 ≤ a ∧ a ≤ 5) ∨ ¬(0 ≤ b ∧ b ≤ 5)) → (a = b ∨ ¬(1 ≤ g ∧ g ≤ 9)) → z = -2) ∧ (¬(¬(0 ≤ a ∧ a ≤ 5) ∨ ¬(0 ≤ b ∧ b ≤ 5)) → ¬(a = b ∨ ¬(1 ≤ g ∧ g ≤ 9)) → (z = 1))) ∧ ∀ a : Int, a ≠ 191 → a ≠ 194 → M1 a = M a)) args s 0 0 (fun q => n0 ≤ q)) 0 0 M34 sz 50 [(0, gA n0 190), (1, gJ a), (2, gJ b), (3, gJ g), (4, gJ ch), (5, gJ fr), (6, gJ to)] [] := by
                  intro N32; induction N32 with
                  | zero => intro ch to M34 F35 ich ito hm33; exfalso; omega
                  | succ N32 ih31 =>
                    intro ch to M34 F35 ich ito hm33
                    refine g_iload (n := 52) X 6 dX12_road_50 rfl rfl ?_
                    refine g_bipush (n := 54) X dX12_road_52 (by decide +kernel) rfl ?_
                    refine g_icmp_ge (n := 57) (tgt := 172) X dX12_road_54 (by decide) (by omega) (by omega) rfl (fun c36 => ?_) (fun c36 => ?_)
                    · refine g_iinc (n := 175) (w := fr + 1) (L' := [(5, gJ (fr + 1)), (0, gA n0 190), (1, gJ a), (2, gJ b), (3, gJ g), (4, gJ ch), (6, gJ to)]) X 5 dX12_road_172 rfl rfl (by decide) rfl rfl ?_
                      refine g_goto (tgt := 40) X dX12_road_175 (by decide) ?_
                      refine G.sub (L' := [(0, gA n0 190), (1, gJ a), (2, gJ b), (3, gJ g), (4, gJ ch), (5, gJ (fr + 1))]) [1, 2, 3, 4, 5, 0] rfl ?_
                      exact ih15 ch (fr + 1) M34 (fun a h0 => ((F35 a (by omega)).trans ((F19 a (by omega)).trans rfl))) (by omega) (by omega) (by omega)
                    · refine g_aload_n (n := 58) X 0 dX12_road_57 rfl rfl rfl ?_
                      refine g_iload (n := 60) X 5 dX12_road_58 rfl rfl ?_
                      refine g_iload_n (n := 61) X 1 dX12_road_60 rfl rfl rfl ?_
                      refine g_callVi (n := 64) (As := [gJ fr, gJ a]) (rest := []) (cs1 := 0) (ss1 := 0) X (c_X12_farOf fr a (by omega) (by omega) (by omega) ((congrFun (F35 190 (by omega)) _).trans ((congrFun (F19 190 (by omega)) _).trans f_190_1)) (by omega) (fun i h0 h1 => (congrFun ((F35 191 (by omega)).trans ((F19 191 (by omega)).trans rfl)) i).trans (hS i h0 h1))) okX12_farOf kw_6_113 ⟨kw_6_115, kw_0_39⟩ ⟨rfl, rfl⟩ ⟨Nat.le_of_ble_eq_true rfl, Nat.le_of_ble_eq_true rfl⟩ rfl (by omega) (by omega) lay_190 rfl rfl (Nat.le_of_ble_eq_true rfl) ⟨Nat.le_of_ble_eq_true rfl, Nat.le_of_ble_eq_true rfl⟩ rfl rfl dX12_road_61 rfl (fun z37 M38 P39 => ?_)
                      obtain ⟨rfl, P39⟩ := P39
                      refine g_iload_n (n := 65) X 3 dX12_road_64 rfl rfl rfl ?_
                      refine g_iadd (n := 66) (z := z37 + g) X dX12_road_65 rfl rfl ?_
                      refine g_aload_n (n := 67) X 0 dX12_road_66 rfl rfl rfl ?_
                      refine g_iload_n (n := 68) X 2 dX12_road_67 rfl rfl rfl ?_
                      refine g_iload (n := 70) X 6 dX12_road_68 rfl rfl ?_
                      refine g_callVi (n := 73) (As := [gJ b, gJ to]) (rest := [gJ (z37 + g)]) (cs1 := 0) (ss1 := 0) X (c_X12_farOf b to (by omega) (by omega) (by omega) ((congrFun (F35 190 (by omega)) _).trans ((congrFun (F19 190 (by omega)) _).trans f_190_1)) (by omega) (fun i h0 h1 => (congrFun ((F35 191 (by omega)).trans ((F19 191 (by omega)).trans rfl)) i).trans (hS i h0 h1))) okX12_farOf kw_6_113 ⟨kw_6_115, kw_0_39⟩ ⟨rfl, rfl⟩ ⟨Nat.le_of_ble_eq_true rfl, Nat.le_of_ble_eq_true rfl⟩ rfl (by omega) (by omega) lay_190 rfl rfl (Nat.le_of_ble_eq_true rfl) ⟨Nat.le_of_ble_eq_true rfl, Nat.le_of_ble_eq_true rfl⟩ rfl rfl dX12_road_70 rfl (fun z40 M41 P42 => ?_)
                      obtain ⟨rfl, P42⟩ := P42
                      refine g_iadd (n := 74) (z := (z37 + g) + z40) X dX12_road_73 rfl rfl ?_
                      refine g_istore (n := 76) (L' := [(7, gJ ((z37 + g) + z40)), (0, gA n0 190), (1, gJ a), (2, gJ b), (3, gJ g), (4, gJ ch), (5, gJ fr), (6, gJ to)]) X dX12_road_74 (by decide) rfl rfl ?_
                      refine g_aload_n (n := 77) X 1 dX12_road_76 rfl rfl rfl ?_
                      refine g_iload (n := 79) X 6 dX12_road_77 rfl rfl ?_
                      refine g_iload_n (n := 80) X 3 dX12_road_79 rfl rfl rfl ?_
                      refine g_callVi (n := 83) (As := [gJ fr, gJ b]) (rest := []) (cs1 := 0) (ss1 := 0) X (c_X12_farOf fr b (by omega) (by omega) (by omega) ((congrFun (F35 190 (by omega)) _).trans ((congrFun (F19 190 (by omega)) _).trans f_190_1)) (by omega) (fun i h0 h1 => (congrFun ((F35 191 (by omega)).trans ((F19 191 (by omega)).trans rfl)) i).trans (hS i h0 h1))) okX12_farOf kw_6_113 ⟨kw_6_115, kw_0_39⟩ ⟨rfl, rfl⟩ ⟨Nat.le_of_ble_eq_true rfl, Nat.le_of_ble_eq_true rfl⟩ rfl (by omega) (by omega) lay_190 rfl rfl (Nat.le_of_ble_eq_true rfl) ⟨Nat.le_of_ble_eq_true rfl, Nat.le_of_ble_eq_true rfl⟩ rfl rfl dX12_road_80 rfl (fun z43 M44 P45 => ?_)
                      obtain ⟨rfl, P45⟩ := P45
                      refine g_iload_n (n := 84) X 4 dX12_road_83 rfl rfl rfl ?_
                      refine g_iadd (n := 85) (z := z43 + g) X dX12_road_84 rfl rfl ?_
                      refine g_aload_n (n := 86) X 1 dX12_road_85 rfl rfl rfl ?_
                      refine g_iload_n (n := 87) X 2 dX12_road_86 rfl rfl rfl ?_
                      refine g_iload (n := 89) X 7 dX12_road_87 rfl rfl ?_
                      refine g_callVi (n := 92) (As := [gJ a, gJ to]) (rest := [gJ (z43 + g)]) (cs1 := 0) (ss1 := 0) X (c_X12_farOf a to (by omega) (by omega) (by omega) ((congrFun (F35 190 (by omega)) _).trans ((congrFun (F19 190 (by omega)) _).trans f_190_1)) (by omega) (fun i h0 h1 => (congrFun ((F35 191 (by omega)).trans ((F19 191 (by omega)).trans rfl)) i).trans (hS i h0 h1))) okX12_farOf kw_6_113 ⟨kw_6_115, kw_0_39⟩ ⟨rfl, rfl⟩ ⟨Nat.le_of_ble_eq_true rfl, Nat.le_of_ble_eq_true rfl⟩ rfl (by omega) (by omega) lay_190 rfl rfl (Nat.le_of_ble_eq_true rfl) ⟨Nat.le_of_ble_eq_true rfl, Nat.le_of_ble_eq_true rfl⟩ rfl rfl dX12_road_89 rfl (fun z46 M47 P48 => ?_)
                      obtain ⟨rfl, P48⟩ := P48
                      refine g_iadd (n := 93) (z := (z43 + g) + z46) X dX12_road_92 rfl rfl ?_
                      refine g_istore (n := 95) (L' := [(8, gJ ((z43 + g) + z46)), (7, gJ ((z37 + g) + z40)), (0, gA n0 190), (1, gJ a), (2, gJ b), (3, gJ g), (4, gJ ch), (5, gJ fr), (6, gJ to)]) X dX12_road_93 (by decide) rfl rfl ?_
                      refine g_iload (n := 97) X 1 dX12_road_95 rfl rfl ?_
                      refine g_iload (n := 99) X 0 dX12_road_97 rfl rfl ?_
                      refine g_icmp_ge (n := 102) (tgt := 107) X dX12_road_99 (by decide) (by omega) (by omega) rfl (fun c49 => ?_) (fun c49 => ?_)
                      · refine g_iload (n := 109) X 0 dX12_road_107 rfl rfl ?_
                        refine g_istore (n := 111) (L' := [(9, gJ ((z43 + g) + z46)), (8, gJ ((z43 + g) + z46)), (7, gJ ((z37 + g) + z40)), (0, gA n0 190), (1, gJ a), (2, gJ b), (3, gJ g), (4, gJ ch), (5, gJ fr), (6, gJ to)]) X dX12_road_109 (by decide) rfl rfl ?_
                        refine g_iload (n := 113) X 0 dX12_road_111 rfl rfl ?_
                        refine g_aload_n (n := 114) X 3 dX12_road_113 rfl rfl rfl ?_
                        refine g_iload (n := 116) X 8 dX12_road_114 rfl rfl ?_
                        refine g_iload (n := 118) X 9 dX12_road_116 rfl rfl ?_
                        refine g_callVi (n := 121) (As := [gJ fr, gJ to]) (rest := [gJ ((z43 + g) + z46)]) (cs1 := 0) (ss1 := 0) X (c_X12_farOf fr to (by omega) (by omega) (by omega) ((congrFun (F35 190 (by omega)) _).trans ((congrFun (F19 190 (by omega)) _).trans f_190_1)) (by omega) (fun i h0 h1 => (congrFun ((F35 191 (by omega)).trans ((F19 191 (by omega)).trans rfl)) i).trans (hS i h0 h1))) okX12_farOf kw_6_113 ⟨kw_6_115, kw_0_39⟩ ⟨rfl, rfl⟩ ⟨Nat.le_of_ble_eq_true rfl, Nat.le_of_ble_eq_true rfl⟩ rfl (by omega) (by omega) lay_190 rfl rfl (Nat.le_of_ble_eq_true rfl) ⟨Nat.le_of_ble_eq_true rfl, Nat.le_of_ble_eq_true rfl⟩ rfl rfl dX12_road_118 rfl (fun z50 M51 P52 => ?_)
                        obtain ⟨rfl, P52⟩ := P52
                        refine g_icmp_ge (n := 124) (tgt := 145) X dX12_road_121 (by decide) (by omega) (by omega) rfl (fun c53 => ?_) (fun c53 => ?_)
                        · refine g_aload_n (n := 146) X 3 dX12_road_145 rfl rfl rfl ?_
                          refine gg_12_5 (n := 149) (z := 194) X (by omega) (by omega) lay_190 kw_6_31 dX12_road_146 rfl ((congrFun (F35 190 (by omega)) _).trans ((congrFun (F19 190 (by omega)) _).trans f_190_5)) (by omega) ?_
                          refine g_bipush (n := 151) X dX12_road_149 (by decide +kernel) rfl ?_
                          refine g_iload (n := 153) X 8 dX12_road_151 rfl rfl ?_
                          refine g_imul (n := 154) (z := 6 * fr) X dX12_road_153 rfl rfl ?_
                          refine g_iload (n := 156) X 9 dX12_road_154 rfl rfl ?_
                          refine g_iadd (n := 157) (z := (6 * fr) + to) X dX12_road_156 rfl rfl ?_
                          refine g_aload_n (n := 158) X 3 dX12_road_157 rfl rfl rfl ?_
                          refine g_iload (n := 160) X 8 dX12_road_158 rfl rfl ?_
                          refine g_iload (n := 162) X 9 dX12_road_160 rfl rfl ?_
                          refine g_callVi (n := 165) (As := [gJ fr, gJ to]) (rest := [gJ ((6 * fr) + to), gA n0 194]) (cs1 := 0) (ss1 := 0) X (c_X12_farOf fr to (by omega) (by omega) (by omega) ((congrFun (F35 190 (by omega)) _).trans ((congrFun (F19 190 (by omega)) _).trans f_190_1)) (by omega) (fun i h0 h1 => (congrFun ((F35 191 (by omega)).trans ((F19 191 (by omega)).trans rfl)) i).trans (hS i h0 h1))) okX12_farOf kw_6_113 ⟨kw_6_115, kw_0_39⟩ ⟨rfl, rfl⟩ ⟨Nat.le_of_ble_eq_true rfl, Nat.le_of_ble_eq_true rfl⟩ rfl (by omega) (by omega) lay_190 rfl rfl (Nat.le_of_ble_eq_true rfl) ⟨Nat.le_of_ble_eq_true rfl, Nat.le_of_ble_eq_true rfl⟩ rfl rfl dX12_road_162 rfl (fun z54 M55 P56 => ?_)
                          obtain ⟨rfl, P56⟩ := P56
                          refine g_iast (n := 166) X (by omega) (by omega) lay_194 (by omega) (by omega) (by omega) dX12_road_165 rfl ?_
                          refine G.nm (fun M57 e58 => ?_)
                          refine g_iinc (n := 169) (w := to + 1) (L' := [(6, gJ (to + 1)), (9, gJ ((z43 + g) + z46)), (8, gJ ((z43 + g) + z46)), (7, gJ ((z37 + g) + z40)), (0, gA n0 190), (1, gJ a), (2, gJ b), (3, gJ g), (4, gJ ch), (5, gJ fr)]) X 9 dX12_road_166 rfl rfl (by decide) rfl rfl ?_
                          refine g_goto (tgt := 50) X dX12_road_169 (by decide) ?_
                          refine G.sub (L' := [(0, gA n0 190), (1, gJ a), (2, gJ b), (3, gJ g), (4, gJ ch), (5, gJ fr), (6, gJ (to + 1))]) [4, 5, 6, 7, 8, 9, 0] rfl ?_
                          exact ih31 ch (to + 1) M57 (fun a h0 => ((congrFun e58 a).trans ((gset_off a (by omega)).trans ((F35 a (by omega)).trans rfl)))) (by omega) (by omega) (by omega)
                        · refine g_iconst (n := 125) X dX12_road_124 rfl ?_
                          refine g_istore (n := 127) (L' := [(4, gJ 1), (9, gJ ((z43 + g) + z46)), (8, gJ ((z43 + g) + z46)), (7, gJ ((z37 + g) + z40)), (0, gA n0 190), (1, gJ a), (2, gJ b), (3, gJ g), (5, gJ fr), (6, gJ to)]) X dX12_road_125 (by decide) rfl rfl ?_
                          refine g_aload_n (n := 128) X 4 dX12_road_127 rfl rfl rfl ?_
                          refine gg_12_5 (n := 131) (z := 194) X (by omega) (by omega) lay_190 kw_6_31 dX12_road_128 rfl ((congrFun (F35 190 (by omega)) _).trans ((congrFun (F19 190 (by omega)) _).trans f_190_5)) (by omega) ?_
                          refine g_bipush (n := 133) X dX12_road_131 (by decide +kernel) rfl ?_
                          refine g_iload (n := 135) X 8 dX12_road_133 rfl rfl ?_
                          refine g_imul (n := 136) (z := 6 * fr) X dX12_road_135 rfl rfl ?_
                          refine g_iload (n := 138) X 9 dX12_road_136 rfl rfl ?_
                          refine g_iadd (n := 139) (z := (6 * fr) + to) X dX12_road_138 rfl rfl ?_
                          refine g_iload (n := 141) X 1 dX12_road_139 rfl rfl ?_
                          refine g_iast (n := 142) X (by omega) (by omega) lay_194 (by omega) (by omega) (by omega) dX12_road_141 rfl ?_
                          refine G.nm (fun M59 e60 => ?_)
                          refine g_goto (tgt := 166) X dX12_road_142 (by decide) ?_
                          refine g_iinc (n := 169) (w := to + 1) (L' := [(6, gJ (to + 1)), (4, gJ 1), (9, gJ ((z43 + g) + z46)), (8, gJ ((z43 + g) + z46)), (7, gJ ((z37 + g) + z40)), (0, gA n0 190), (1, gJ a), (2, gJ b), (3, gJ g), (5, gJ fr)]) X 9 dX12_road_166 rfl rfl (by decide) rfl rfl ?_
                          refine g_goto (tgt := 50) X dX12_road_169 (by decide) ?_
                          refine G.sub (L' := [(0, gA n0 190), (1, gJ a), (2, gJ b), (3, gJ g), (4, gJ 1), (5, gJ fr), (6, gJ (to + 1))]) [5, 6, 7, 8, 1, 9, 0] rfl ?_
                          exact ih31 1 (to + 1) M59 (fun a h0 => ((congrFun e60 a).trans ((gset_off a (by omega)).trans ((F35 a (by omega)).trans rfl)))) (by omega) (by omega) (by omega)
                      · refine g_iload (n := 104) X 1 dX12_road_102 rfl rfl ?_
                        refine g_goto (tgt := 109) X dX12_road_104 (by decide) ?_
                        refine g_istore (n := 111) (L' := [(9, gJ ((z37 + g) + z40)), (8, gJ ((z43 + g) + z46)), (7, gJ ((z37 + g) + z40)), (0, gA n0 190), (1, gJ a), (2, gJ b), (3, gJ g), (4, gJ ch), (5, gJ fr), (6, gJ to)]) X dX12_road_109 (by decide) rfl rfl ?_
                        refine g_iload (n := 113) X 0 dX12_road_111 rfl rfl ?_
                        refine g_aload_n (n := 114) X 3 dX12_road_113 rfl rfl rfl ?_
                        refine g_iload (n := 116) X 8 dX12_road_114 rfl rfl ?_
                        refine g_iload (n := 118) X 9 dX12_road_116 rfl rfl ?_
                        refine g_callVi (n := 121) (As := [gJ fr, gJ to]) (rest := [gJ ((z37 + g) + z40)]) (cs1 := 0) (ss1 := 0) X (c_X12_farOf fr to (by omega) (by omega) (by omega) ((congrFun (F35 190 (by omega)) _).trans ((congrFun (F19 190 (by omega)) _).trans f_190_1)) (by omega) (fun i h0 h1 => (congrFun ((F35 191 (by omega)).trans ((F19 191 (by omega)).trans rfl)) i).trans (hS i h0 h1))) okX12_farOf kw_6_113 ⟨kw_6_115, kw_0_39⟩ ⟨rfl, rfl⟩ ⟨Nat.le_of_ble_eq_true rfl, Nat.le_of_ble_eq_true rfl⟩ rfl (by omega) (by omega) lay_190 rfl rfl (Nat.le_of_ble_eq_true rfl) ⟨Nat.le_of_ble_eq_true rfl, Nat.le_of_ble_eq_true rfl⟩ rfl rfl dX12_road_118 rfl (fun z61 M62 P63 => ?_)
                        obtain ⟨rfl, P63⟩ := P63
                        refine g_icmp_ge (n := 124) (tgt := 145) X dX12_road_121 (by decide) (by omega) (by omega) rfl (fun c64 => ?_) (fun c64 => ?_)
                        · refine g_aload_n (n := 146) X 3 dX12_road_145 rfl rfl rfl ?_
                          refine gg_12_5 (n := 149) (z := 194) X (by omega) (by omega) lay_190 kw_6_31 dX12_road_146 rfl ((congrFun (F35 190 (by omega)) _).trans ((congrFun (F19 190 (by omega)) _).trans f_190_5)) (by omega) ?_
                          refine g_bipush (n := 151) X dX12_road_149 (by decide +kernel) rfl ?_
                          refine g_iload (n := 153) X 8 dX12_road_151 rfl rfl ?_
                          refine g_imul (n := 154) (z := 6 * fr) X dX12_road_153 rfl rfl ?_
                          refine g_iload (n := 156) X 9 dX12_road_154 rfl rfl ?_
                          refine g_iadd (n := 157) (z := (6 * fr) + to) X dX12_road_156 rfl rfl ?_
                          refine g_aload_n (n := 158) X 3 dX12_road_157 rfl rfl rfl ?_
                          refine g_iload (n := 160) X 8 dX12_road_158 rfl rfl ?_
                          refine g_iload (n := 162) X 9 dX12_road_160 rfl rfl ?_
                          refine g_callVi (n := 165) (As := [gJ fr, gJ to]) (rest := [gJ ((6 * fr) + to), gA n0 194]) (cs1 := 0) (ss1 := 0) X (c_X12_farOf fr to (by omega) (by omega) (by omega) ((congrFun (F35 190 (by omega)) _).trans ((congrFun (F19 190 (by omega)) _).trans f_190_1)) (by omega) (fun i h0 h1 => (congrFun ((F35 191 (by omega)).trans ((F19 191 (by omega)).trans rfl)) i).trans (hS i h0 h1))) okX12_farOf kw_6_113 ⟨kw_6_115, kw_0_39⟩ ⟨rfl, rfl⟩ ⟨Nat.le_of_ble_eq_true rfl, Nat.le_of_ble_eq_true rfl⟩ rfl (by omega) (by omega) lay_190 rfl rfl (Nat.le_of_ble_eq_true rfl) ⟨Nat.le_of_ble_eq_true rfl, Nat.le_of_ble_eq_true rfl⟩ rfl rfl dX12_road_162 rfl (fun z65 M66 P67 => ?_)
                          obtain ⟨rfl, P67⟩ := P67
                          refine g_iast (n := 166) X (by omega) (by omega) lay_194 (by omega) (by omega) (by omega) dX12_road_165 rfl ?_
                          refine G.nm (fun M68 e69 => ?_)
                          refine g_iinc (n := 169) (w := to + 1) (L' := [(6, gJ (to + 1)), (9, gJ ((z37 + g) + z40)), (8, gJ ((z43 + g) + z46)), (7, gJ ((z37 + g) + z40)), (0, gA n0 190), (1, gJ a), (2, gJ b), (3, gJ g), (4, gJ ch), (5, gJ fr)]) X 9 dX12_road_166 rfl rfl (by decide) rfl rfl ?_
                          refine g_goto (tgt := 50) X dX12_road_169 (by decide) ?_
                          refine G.sub (L' := [(0, gA n0 190), (1, gJ a), (2, gJ b), (3, gJ g), (4, gJ ch), (5, gJ fr), (6, gJ (to + 1))]) [4, 5, 6, 7, 8, 9, 0] rfl ?_
                          exact ih31 ch (to + 1) M68 (fun a h0 => ((congrFun e69 a).trans ((gset_off a (by omega)).trans ((F35 a (by omega)).trans rfl)))) (by omega) (by omega) (by omega)
                        · refine g_iconst (n := 125) X dX12_road_124 rfl ?_
                          refine g_istore (n := 127) (L' := [(4, gJ 1), (9, gJ ((z37 + g) + z40)), (8, gJ ((z43 + g) + z46)), (7, gJ ((z37 + g) + z40)), (0, gA n0 190), (1, gJ a), (2, gJ b), (3, gJ g), (5, gJ fr), (6, gJ to)]) X dX12_road_125 (by decide) rfl rfl ?_
                          refine g_aload_n (n := 128) X 4 dX12_road_127 rfl rfl rfl ?_
                          refine gg_12_5 (n := 131) (z := 194) X (by omega) (by omega) lay_190 kw_6_31 dX12_road_128 rfl ((congrFun (F35 190 (by omega)) _).trans ((congrFun (F19 190 (by omega)) _).trans f_190_5)) (by omega) ?_
                          refine g_bipush (n := 133) X dX12_road_131 (by decide +kernel) rfl ?_
                          refine g_iload (n := 135) X 8 dX12_road_133 rfl rfl ?_
                          refine g_imul (n := 136) (z := 6 * fr) X dX12_road_135 rfl rfl ?_
                          refine g_iload (n := 138) X 9 dX12_road_136 rfl rfl ?_
                          refine g_iadd (n := 139) (z := (6 * fr) + to) X dX12_road_138 rfl rfl ?_
                          refine g_iload (n := 141) X 1 dX12_road_139 rfl rfl ?_
                          refine g_iast (n := 142) X (by omega) (by omega) lay_194 (by omega) (by omega) (by omega) dX12_road_141 rfl ?_
                          refine G.nm (fun M70 e71 => ?_)
                          refine g_goto (tgt := 166) X dX12_road_142 (by decide) ?_
                          refine g_iinc (n := 169) (w := to + 1) (L' := [(6, gJ (to + 1)), (4, gJ 1), (9, gJ ((z37 + g) + z40)), (8, gJ ((z43 + g) + z46)), (7, gJ ((z37 + g) + z40)), (0, gA n0 190), (1, gJ a), (2, gJ b), (3, gJ g), (5, gJ fr)]) X 9 dX12_road_166 rfl rfl (by decide) rfl rfl ?_
                          refine g_goto (tgt := 50) X dX12_road_169 (by decide) ?_
                          refine G.sub (L' := [(0, gA n0 190), (1, gJ a), (2, gJ b), (3, gJ g), (4, gJ 1), (5, gJ fr), (6, gJ (to + 1))]) [5, 6, 7, 8, 1, 9, 0] rfl ?_
                          exact ih31 1 (to + 1) M70 (fun a h0 => ((congrFun e71 a).trans ((gset_off a (by omega)).trans ((F35 a (by omega)).trans rfl)))) (by omega) (by omega) (by omega)
                refine G.sub (L' := [(0, gA n0 190), (1, gJ a), (2, gJ b), (3, gJ g), (4, gJ ch), (5, gJ fr), (6, gJ 0)]) [1, 2, 3, 4, 5, 6, 0] rfl ?_
                exact loop30 _ ch 0 M18 (fun a _ => rfl) (by omega) (by omega) (Nat.lt_succ_self _)
          refine G.sub (L' := [(0, gA n0 190), (1, gJ a), (2, gJ b), (3, gJ g), (4, gJ 0), (5, gJ 0)]) [2, 3, 4, 5, 1, 0] rfl ?_
          exact loop14 _ 0 0 M (fun a _ => rfl) (by omega) (by omega) (Nat.lt_succ_self _)
        · refine g_bipush (n := 33) X dX12_road_31 (by decide +kernel) rfl ?_
          exact g_ireturn X hr dX12_road_33 (by exact ⟨by omega, fun a h0 h1 => rfl⟩)
    · refine g_iconst (n := 15) X dX12_road_14 rfl ?_
      exact g_ireturn X hr dX12_road_15 (by exact ⟨by omega, fun a h0 h1 => rfl⟩)
theorem dX12_feed_0 : decode cX12_feed 0 = .ok (.iload_n 3, 1) := by decide +kernel
theorem dX12_feed_1 : decode cX12_feed 1 = .ok (.iconst 1, 1) := by decide +kernel
theorem dX12_feed_2 : decode cX12_feed 2 = .ok (.bipush 8, 2) := by decide +kernel
theorem dX12_feed_4 : decode cX12_feed 4 = .ok (.invokestatic 64, 3) := by decide +kernel
theorem dX12_feed_7 : decode cX12_feed 7 = .ok (.ifCond .ne 6, 3) := by decide +kernel
theorem dX12_feed_13 : decode cX12_feed 13 = .ok (.aload_n 0, 1) := by decide +kernel
theorem dX12_feed_14 : decode cX12_feed 14 = .ok (.getfield 7, 3) := by decide +kernel
theorem dX12_feed_17 : decode cX12_feed 17 = .ok (.bipush 10, 2) := by decide +kernel
theorem dX12_feed_19 : decode cX12_feed 19 = .ok (.iaload, 1) := by decide +kernel
theorem dX12_feed_20 : decode cX12_feed 20 = .ok (.iload_n 3, 1) := by decide +kernel
theorem dX12_feed_21 : decode cX12_feed 21 = .ok (.iadd, 1) := by decide +kernel
theorem dX12_feed_22 : decode cX12_feed 22 = .ok (.sipush 150, 3) := by decide +kernel
theorem dX12_feed_25 : decode cX12_feed 25 = .ok (.if_icmp .le 6, 3) := by decide +kernel
theorem dX12_feed_31 : decode cX12_feed 31 = .ok (.iload_n 3, 1) := by decide +kernel
theorem dX12_feed_32 : decode cX12_feed 32 = .ok (.iconst 1, 1) := by decide +kernel
theorem dX12_feed_33 : decode cX12_feed 33 = .ok (.isub, 1) := by decide +kernel
theorem dX12_feed_34 : decode cX12_feed 34 = .ok (.istore 4, 2) := by decide +kernel
theorem dX12_feed_36 : decode cX12_feed 36 = .ok (.iload 4, 2) := by decide +kernel
theorem dX12_feed_38 : decode cX12_feed 38 = .ok (.ifCond .lt 48, 3) := by decide +kernel
theorem dX12_feed_86 : decode cX12_feed 86 = .ok (.aload_n 0, 1) := by decide +kernel
theorem dX12_feed_87 : decode cX12_feed 87 = .ok (.getfield 7, 3) := by decide +kernel
theorem dX12_feed_90 : decode cX12_feed 90 = .ok (.bipush 10, 2) := by decide +kernel
theorem dX12_feed_92 : decode cX12_feed 92 = .ok (.iaload, 1) := by decide +kernel
theorem dX12_feed_93 : decode cX12_feed 93 = .ok (.ireturn, 1) := by decide +kernel
theorem dX12_feed_41 : decode cX12_feed 41 = .ok (.aload_n 0, 1) := by decide +kernel
theorem dX12_feed_42 : decode cX12_feed 42 = .ok (.getfield 7, 3) := by decide +kernel
theorem dX12_feed_45 : decode cX12_feed 45 = .ok (.sipush 2620, 3) := by decide +kernel
theorem dX12_feed_48 : decode cX12_feed 48 = .ok (.aload_n 0, 1) := by decide +kernel
theorem dX12_feed_49 : decode cX12_feed 49 = .ok (.getfield 7, 3) := by decide +kernel
theorem dX12_feed_52 : decode cX12_feed 52 = .ok (.bipush 10, 2) := by decide +kernel
theorem dX12_feed_54 : decode cX12_feed 54 = .ok (.iaload, 1) := by decide +kernel
theorem dX12_feed_55 : decode cX12_feed 55 = .ok (.iadd, 1) := by decide +kernel
theorem dX12_feed_56 : decode cX12_feed 56 = .ok (.lload_n 1, 1) := by decide +kernel
theorem dX12_feed_57 : decode cX12_feed 57 = .ok (.bipush 8, 2) := by decide +kernel
theorem dX12_feed_59 : decode cX12_feed 59 = .ok (.iload 4, 2) := by decide +kernel
theorem dX12_feed_61 : decode cX12_feed 61 = .ok (.imul, 1) := by decide +kernel
theorem dX12_feed_62 : decode cX12_feed 62 = .ok (.lshr, 1) := by decide +kernel
theorem dX12_feed_63 : decode cX12_feed 63 = .ok (.ldc2_w 127, 3) := by decide +kernel
theorem kw_6_231 : (Jvm.Cond.constantLong "ParishUnionModel" (127 : Nat) (255 : Int64)) ∈ gT := gT_of (tb_6 _ (List.mem_of_getElem? (i := 231) rfl)) rfl
theorem dX12_feed_66 : decode cX12_feed 66 = .ok (.land, 1) := by decide +kernel
theorem dX12_feed_67 : decode cX12_feed 67 = .ok (.l2i, 1) := by decide +kernel
theorem dX12_feed_68 : decode cX12_feed 68 = .ok (.iastore, 1) := by decide +kernel
theorem dX12_feed_69 : decode cX12_feed 69 = .ok (.aload_n 0, 1) := by decide +kernel
theorem dX12_feed_70 : decode cX12_feed 70 = .ok (.getfield 7, 3) := by decide +kernel
theorem dX12_feed_73 : decode cX12_feed 73 = .ok (.bipush 10, 2) := by decide +kernel
theorem dX12_feed_75 : decode cX12_feed 75 = .ok (.dup2, 1) := by decide +kernel
theorem dX12_feed_76 : decode cX12_feed 76 = .ok (.iaload, 1) := by decide +kernel
theorem dX12_feed_77 : decode cX12_feed 77 = .ok (.iconst 1, 1) := by decide +kernel
theorem dX12_feed_78 : decode cX12_feed 78 = .ok (.iadd, 1) := by decide +kernel
theorem dX12_feed_79 : decode cX12_feed 79 = .ok (.iastore, 1) := by decide +kernel
theorem dX12_feed_80 : decode cX12_feed 80 = .ok (.iinc 4 (-1), 3) := by decide +kernel
theorem dX12_feed_83 : decode cX12_feed 83 = .ok (.goto (-47), 3) := by decide +kernel
theorem dX12_feed_28 : decode cX12_feed 28 = .ok (.bipush (-4), 2) := by decide +kernel
theorem dX12_feed_30 : decode cX12_feed 30 = .ok (.ireturn, 1) := by decide +kernel
theorem dX12_feed_10 : decode cX12_feed 10 = .ok (.bipush (-2), 2) := by decide +kernel
theorem dX12_feed_12 : decode cX12_feed 12 = .ok (.ireturn, 1) := by decide +kernel
set_option maxRecDepth 100000 in
set_option maxHeartbeats 4000000 in
theorem c_X12_feed {l : Launch} {n0 : Nat} {D : va_G} {cA : Nat → ClassId} {M : gM} (d g : Int) (r_d : -9223372036854775808 ≤ d ∧ d ≤ 9223372036854775807) (r_g : -2147483648 ≤ g ∧ g ≤ 2147483647) {sz : Nat} (hsz : 206 ≤ sz) (f_190_1 : M 190 1 = 192) (f_191_10 : M 191 10 = 0) : Met l yX12_feed (gWsOf yX12_feed cX12_feed 5 (Option.some Jvm.ClassFile.FieldType.int)) { frames := 1, cells := 0, slots := 0, locals := 22 } (gPc n0 D cA [gA n0 190, gV d, gJ g] M sz) (gQi n0 D cA sz (fun z M1 => ((¬(1 ≤ g ∧ g ≤ 8) → z = -2) ∧ (1 ≤ g → g ≤ 8 → z = g)) ∧ ∀ a : Int, a ≠ 191 → M1 a = M a)) 0 0 (fun q => n0 ≤ q) := by
  refine gMet_of [gA n0 190, gV d, gJ g] (by decide) (Nat.le_of_ble_eq_true rfl) ?_
  intro p e s m args below meth cd X hr hm
  have X : gCx p s m args meth cd n0 D cA "ParishUnionModel" cX12_feed 5 := X
  show G p l e ({ frames := 1, cells := 0, slots := 0, locals := 22 } : Room) s m args below meth cd n0 D cA 5 (MQ below (gQi n0 D cA sz (fun z M1 => ((¬(1 ≤ g ∧ g ≤ 8) → z = -2) ∧ (1 ≤ g → g ≤ 8 → z = g)) ∧ ∀ a : Int, a ≠ 191 → M1 a = M a)) args s 0 0 (fun q => n0 ≤ q)) 0 0 M sz 0 [(0, gA n0 190), (1, gV d), (3, gJ g)] []
  refine g_iload_n (n := 1) X 2 dX12_feed_0 rfl rfl rfl ?_
  refine g_iconst (n := 2) X dX12_feed_1 rfl ?_
  refine g_bipush (n := 4) X dX12_feed_2 (by decide +kernel) rfl ?_
  refine g_callSi (n := 7) (As := [gJ g, gJ 1, gJ 8]) (rest := []) (cs1 := 0) (ss1 := 0) X (c_X12_in g 1 8 (by omega) (by omega) (by omega) (by omega)) okX12_in kw_6_106 kw_6_107 ⟨rfl, rfl⟩ ⟨Nat.le_of_ble_eq_true rfl, Nat.le_of_ble_eq_true rfl⟩ rfl rfl (Nat.le_of_ble_eq_true rfl) ⟨Nat.le_of_ble_eq_true rfl, Nat.le_of_ble_eq_true rfl⟩ rfl rfl dX12_feed_4 rfl (fun z1 M2 P3 => ?_)
  obtain ⟨rfl, P3⟩ := P3
  refine g_if_ne (n := 10) (tgt := 13) X dX12_feed_7 (by decide) (by omega) rfl (fun c4 => ?_) (fun c4 => ?_)
  · refine g_aload_n (n := 14) X 0 dX12_feed_13 rfl rfl rfl ?_
    refine gg_12_1 (n := 17) (z := 191) X (by omega) (by omega) lay_190 kw_6_27 dX12_feed_14 rfl f_190_1 (by omega) ?_
    refine g_bipush (n := 19) X dX12_feed_17 (by decide +kernel) rfl ?_
    refine g_iald (n := 20) X (by omega) (by omega) lay_191 (by omega) (by omega) (by omega) dX12_feed_19 rfl ?_
    rw [show M 191 10 = 0 from f_191_10]
    refine g_iload_n (n := 21) X 2 dX12_feed_20 rfl rfl rfl ?_
    refine g_iadd (n := 22) (z := 0 + g) X dX12_feed_21 rfl rfl ?_
    refine g_sipush (n := 25) X dX12_feed_22 (by decide +kernel) rfl ?_
    refine g_icmp_le (n := 28) (tgt := 31) X dX12_feed_25 (by decide) (by omega) (by omega) rfl (fun c5 => ?_) (fun c5 => ?_)
    · refine g_iload_n (n := 32) X 2 dX12_feed_31 rfl rfl rfl ?_
      refine g_iconst (n := 33) X dX12_feed_32 rfl ?_
      refine g_isub (n := 34) (z := g - 1) X dX12_feed_33 rfl rfl ?_
      refine g_istore (n := 36) (L' := [(4, gJ (g - 1)), (0, gA n0 190), (1, gV d), (3, gJ g)]) X dX12_feed_34 (by decide) rfl rfl ?_
      have loop6 : ∀ (N8 : Nat) (k : Int) (M10 : gM), (∀ a : Int, a ≠ 191 → M10 a = M a) → M10 191 10 = g - 1 - k → (-1 ≤ k ∧ k ≤ g - 1) → (k + 1).toNat < N8 → G p l e ({ frames := 1, cells := 0, slots := 0, locals := 22 } : Room) s m args below meth cd n0 D cA 5 (MQ below (gQi n0 D cA sz (fun z M1 => ((¬(1 ≤ g ∧ g ≤ 8) → z = -2) ∧ (1 ≤ g → g ≤ 8 → z = g)) ∧ ∀ a : Int, a ≠ 191 → M1 a = M a)) args s 0 0 (fun q => n0 ≤ q)) 0 0 M10 sz 36 [(0, gA n0 190), (1, gV d), (3, gJ g), (4, gJ k)] [] := by
        intro N8; induction N8 with
        | zero => intro k M10 F11 g12 ik hm9; exfalso; omega
        | succ N8 ih7 =>
          intro k M10 F11 g12 ik hm9
          refine g_iload (n := 38) X 3 dX12_feed_36 rfl rfl ?_
          refine g_if_lt (n := 41) (tgt := 86) X dX12_feed_38 (by decide) (by omega) rfl (fun c13 => ?_) (fun c13 => ?_)
          · refine g_aload_n (n := 87) X 0 dX12_feed_86 rfl rfl rfl ?_
            refine gg_12_1 (n := 90) (z := 191) X (by omega) (by omega) lay_190 kw_6_27 dX12_feed_87 rfl ((congrFun (F11 190 (by omega)) _).trans f_190_1) (by omega) ?_
            refine g_bipush (n := 92) X dX12_feed_90 (by decide +kernel) rfl ?_
            refine g_iald (n := 93) X (by omega) (by omega) lay_191 (by omega) (by omega) (by omega) dX12_feed_92 rfl ?_
            rw [show M10 191 10 = g - 1 - k from g12]
            exact g_ireturn X hr dX12_feed_93 (by exact ⟨by omega, fun a h0 => ((F11 a (by omega)).trans rfl)⟩)
          · refine g_aload_n (n := 42) X 0 dX12_feed_41 rfl rfl rfl ?_
            refine gg_12_1 (n := 45) (z := 191) X (by omega) (by omega) lay_190 kw_6_27 dX12_feed_42 rfl ((congrFun (F11 190 (by omega)) _).trans f_190_1) (by omega) ?_
            refine g_sipush (n := 48) X dX12_feed_45 (by decide +kernel) rfl ?_
            refine g_aload_n (n := 49) X 0 dX12_feed_48 rfl rfl rfl ?_
            refine gg_12_1 (n := 52) (z := 191) X (by omega) (by omega) lay_190 kw_6_27 dX12_feed_49 rfl ((congrFun (F11 190 (by omega)) _).trans f_190_1) (by omega) ?_
            refine g_bipush (n := 54) X dX12_feed_52 (by decide +kernel) rfl ?_
            refine g_iald (n := 55) X (by omega) (by omega) lay_191 (by omega) (by omega) (by omega) dX12_feed_54 rfl ?_
            rw [show M10 191 10 = g - 1 - k from g12]
            refine g_iadd (n := 56) (z := 2620 + (g - 1 - k)) X dX12_feed_55 rfl rfl ?_
            refine g_lload_n (n := 57) X 1 dX12_feed_56 rfl rfl rfl ?_
            refine g_bipush (n := 59) X dX12_feed_57 (by decide +kernel) rfl ?_
            refine g_iload (n := 61) X 3 dX12_feed_59 rfl rfl ?_
            refine g_imul (n := 62) (z := 8 * k) X dX12_feed_61 rfl rfl ?_
            refine g_lshrA (n := 63) X dX12_feed_62 rfl (fun q14 rq14 xq14 => ?_)
            refine g_ldc2 (n := 66) (z := 255) X dX12_feed_63 kw_6_231 (by decide +kernel) rfl ?_
            refine g_landA (n := 67) X dX12_feed_66 rfl (fun q15 rq15 xq15 => ?_)
            refine g_l2iA (n := 68) X dX12_feed_67 rfl (fun q16 rq16 xq16 => ?_)
            refine g_iast (n := 69) X (by omega) (by omega) lay_191 (by omega) (by omega) (by omega) dX12_feed_68 rfl ?_
            refine G.nm (fun M17 e18 => ?_)
            refine g_aload_n (n := 70) X 0 dX12_feed_69 rfl rfl rfl ?_
            refine gg_12_1 (n := 73) (z := 191) X (by omega) (by omega) lay_190 kw_6_27 dX12_feed_70 rfl ((congrFun (congrFun e18 _) _).trans ((gset_ne (by omega)).trans ((congrFun (F11 190 (by omega)) _).trans f_190_1))) (by omega) ?_
            refine g_bipush (n := 75) X dX12_feed_73 (by decide +kernel) rfl ?_
            refine g_dup2 (n := 76) X dX12_feed_75 rfl rfl rfl ?_
            refine g_iald (n := 77) X (by omega) (by omega) lay_191 (by omega) (by omega) (by omega) dX12_feed_76 rfl ?_
            rw [show M17 191 10 = g - 1 - k from ((congrFun (congrFun e18 _) _).trans ((gset_ne (by omega)).trans g12))]
            refine g_iconst (n := 78) X dX12_feed_77 rfl ?_
            refine g_iadd (n := 79) (z := (g - 1 - k) + 1) X dX12_feed_78 rfl rfl ?_
            refine g_iast (n := 80) X (by omega) (by omega) lay_191 (by omega) (by omega) (by omega) dX12_feed_79 rfl ?_
            refine G.nm (fun M19 e20 => ?_)
            refine g_iinc (n := 83) (w := k + (-1)) (L' := [(4, gJ (k + (-1))), (0, gA n0 190), (1, gV d), (3, gJ g)]) X 3 dX12_feed_80 rfl rfl (by decide) rfl rfl ?_
            refine g_goto (tgt := 36) X dX12_feed_83 (by decide) ?_
            refine G.sub (L' := [(0, gA n0 190), (1, gV d), (3, gJ g), (4, gJ (k + (-1)))]) [1, 2, 3, 0] rfl ?_
            exact ih7 (k + (-1)) M19 (fun a h0 => ((congrFun e20 a).trans ((gset_off a (by omega)).trans ((congrFun e18 a).trans ((gset_off a (by omega)).trans ((F11 a (by omega)).trans rfl)))))) (((congrFun (congrFun e20 _) _).trans (gset_eq _ _ _ _)).trans (by omega)) (by omega) (by omega)
      refine G.sub (L' := [(0, gA n0 190), (1, gV d), (3, gJ g), (4, gJ (g - 1))]) [1, 2, 3, 0] rfl ?_
      exact loop6 _ (g - 1) M (fun a _ => rfl) (f_191_10.trans (by omega)) (by omega) (Nat.lt_succ_self _)
    · refine g_bipush (n := 30) X dX12_feed_28 (by decide +kernel) rfl ?_
      exact g_ireturn X hr dX12_feed_30 (by exact ⟨by omega, fun a h0 => rfl⟩)
  · refine g_bipush (n := 12) X dX12_feed_10 (by decide +kernel) rfl ?_
    exact g_ireturn X hr dX12_feed_12 (by exact ⟨by omega, fun a h0 => rfl⟩)
theorem dX12_outside_0 : decode cX12_outside 0 = .ok (.iconst 0, 1) := by decide +kernel
theorem dX12_outside_1 : decode cX12_outside 1 = .ok (.istore_n 2, 1) := by decide +kernel
theorem dX12_outside_2 : decode cX12_outside 2 = .ok (.iload_n 2, 1) := by decide +kernel
theorem dX12_outside_3 : decode cX12_outside 3 = .ok (.aload_n 0, 1) := by decide +kernel
theorem dX12_outside_4 : decode cX12_outside 4 = .ok (.getfield 7, 3) := by decide +kernel
theorem dX12_outside_7 : decode cX12_outside 7 = .ok (.iconst 1, 1) := by decide +kernel
theorem dX12_outside_8 : decode cX12_outside 8 = .ok (.iaload, 1) := by decide +kernel
theorem dX12_outside_9 : decode cX12_outside 9 = .ok (.if_icmp .ge 107, 3) := by decide +kernel
theorem dX12_outside_116 : decode cX12_outside 116 = .ok (.iconst 0, 1) := by decide +kernel
theorem dX12_outside_117 : decode cX12_outside 117 = .ok (.istore_n 2, 1) := by decide +kernel
theorem dX12_outside_118 : decode cX12_outside 118 = .ok (.iload_n 2, 1) := by decide +kernel
theorem dX12_outside_119 : decode cX12_outside 119 = .ok (.aload_n 0, 1) := by decide +kernel
theorem dX12_outside_120 : decode cX12_outside 120 = .ok (.getfield 7, 3) := by decide +kernel
theorem dX12_outside_123 : decode cX12_outside 123 = .ok (.iconst 1, 1) := by decide +kernel
theorem dX12_outside_124 : decode cX12_outside 124 = .ok (.iaload, 1) := by decide +kernel
theorem dX12_outside_125 : decode cX12_outside 125 = .ok (.if_icmp .ge 178, 3) := by decide +kernel
theorem dX12_outside_303 : decode cX12_outside 303 = .ok (.return_, 1) := by decide +kernel
set_option maxRecDepth 100000 in
set_option maxHeartbeats 4000000 in
theorem c_X12_outside {l : Launch} {n0 : Nat} {D : va_G} {cA : Nat → ClassId} {M : gM} (a : Int) (r_a : -2147483648 ≤ a ∧ a ≤ 2147483647) {sz : Nat} (hsz : 206 ≤ sz) (f_190_1 : M 190 1 = 192) (f_191_1 : M 191 1 = 0) : Met l yX12_outside (gWsOf yX12_outside cX12_outside 4 (Option.none : Option Jvm.ClassFile.FieldType)) { frames := 141, cells := 0, slots := 0, locals := 5967 } (gPc n0 D cA [gA n0 190, gJ a] M sz) (gQv n0 D cA sz (fun M1 => ∀ a : Int, M1 a = M a)) 0 0 (fun q => n0 ≤ q) := by
  refine gMet_of [gA n0 190, gJ a] (by decide) (Nat.le_of_ble_eq_true rfl) ?_
  intro p e s m args below meth cd X hr hm
  have X : gCx p s m args meth cd n0 D cA "ParishUnionModel" cX12_outside 4 := X
  show G p l e ({ frames := 141, cells := 0, slots := 0, locals := 5967 } : Room) s m args below meth cd n0 D cA 4 (MQ below (gQv n0 D cA sz (fun M1 => ∀ a : Int, M1 a = M a)) args s 0 0 (fun q => n0 ≤ q)) 0 0 M sz 0 [(0, gA n0 190), (1, gJ a)] []
  refine g_iconst (n := 1) X dX12_outside_0 rfl ?_
  refine g_istore_n (n := 2) (L' := [(2, gJ 0), (0, gA n0 190), (1, gJ a)]) X dX12_outside_1 rfl (by decide) rfl rfl ?_
  refine g_iload_n (n := 3) X 0 dX12_outside_2 rfl rfl rfl ?_
  refine g_aload_n (n := 4) X 1 dX12_outside_3 rfl rfl rfl ?_
  refine gg_12_1 (n := 7) (z := 191) X (by omega) (by omega) lay_190 kw_6_27 dX12_outside_4 rfl f_190_1 (by omega) ?_
  refine g_iconst (n := 8) X dX12_outside_7 rfl ?_
  refine g_iald (n := 9) X (by omega) (by omega) lay_191 (by omega) (by omega) (by omega) dX12_outside_8 rfl ?_
  rw [show M 191 1 = 0 from f_191_1]
  refine g_icmp_ge (n := 12) (tgt := 116) X dX12_outside_9 (by decide) (by omega) (by omega) rfl (fun c1 => ?_) (fun c1 => by exfalso; omega)
  refine g_iconst (n := 117) X dX12_outside_116 rfl ?_
  refine g_istore_n (n := 118) (L' := [(2, gJ 0), (0, gA n0 190), (1, gJ a)]) X dX12_outside_117 rfl (by decide) rfl rfl ?_
  refine g_iload_n (n := 119) X 0 dX12_outside_118 rfl rfl rfl ?_
  refine g_aload_n (n := 120) X 1 dX12_outside_119 rfl rfl rfl ?_
  refine gg_12_1 (n := 123) (z := 191) X (by omega) (by omega) lay_190 kw_6_27 dX12_outside_120 rfl f_190_1 (by omega) ?_
  refine g_iconst (n := 124) X dX12_outside_123 rfl ?_
  refine g_iald (n := 125) X (by omega) (by omega) lay_191 (by omega) (by omega) (by omega) dX12_outside_124 rfl ?_
  rw [show M 191 1 = 0 from f_191_1]
  refine g_icmp_ge (n := 128) (tgt := 303) X dX12_outside_125 (by decide) (by omega) (by omega) rfl (fun c2 => ?_) (fun c2 => by exfalso; omega)
  exact g_return X hr dX12_outside_303 (by exact (fun a  => rfl))
theorem dX12_inside_0 : decode cX12_inside 0 = .ok (.aload_n 0, 1) := by decide +kernel
theorem dX12_inside_1 : decode cX12_inside 1 = .ok (.iconst 2, 1) := by decide +kernel
theorem dX12_inside_2 : decode cX12_inside 2 = .ok (.iload_n 1, 1) := by decide +kernel
theorem dX12_inside_3 : decode cX12_inside 3 = .ok (.invokevirtual 101, 3) := by decide +kernel
theorem dX12_inside_6 : decode cX12_inside 6 = .ok (.istore_n 2, 1) := by decide +kernel
theorem dX12_inside_7 : decode cX12_inside 7 = .ok (.iconst 0, 1) := by decide +kernel
theorem dX12_inside_8 : decode cX12_inside 8 = .ok (.istore_n 3, 1) := by decide +kernel
theorem dX12_inside_9 : decode cX12_inside 9 = .ok (.iload_n 3, 1) := by decide +kernel
theorem dX12_inside_10 : decode cX12_inside 10 = .ok (.aload_n 0, 1) := by decide +kernel
theorem dX12_inside_11 : decode cX12_inside 11 = .ok (.getfield 7, 3) := by decide +kernel
theorem dX12_inside_14 : decode cX12_inside 14 = .ok (.iconst 1, 1) := by decide +kernel
theorem dX12_inside_15 : decode cX12_inside 15 = .ok (.iaload, 1) := by decide +kernel
theorem dX12_inside_16 : decode cX12_inside 16 = .ok (.if_icmp .ge 127, 3) := by decide +kernel
theorem dX12_inside_143 : decode cX12_inside 143 = .ok (.iconst 0, 1) := by decide +kernel
theorem dX12_inside_144 : decode cX12_inside 144 = .ok (.istore_n 3, 1) := by decide +kernel
theorem dX12_inside_145 : decode cX12_inside 145 = .ok (.iload_n 3, 1) := by decide +kernel
theorem dX12_inside_146 : decode cX12_inside 146 = .ok (.aload_n 0, 1) := by decide +kernel
theorem dX12_inside_147 : decode cX12_inside 147 = .ok (.getfield 7, 3) := by decide +kernel
theorem dX12_inside_150 : decode cX12_inside 150 = .ok (.iconst 1, 1) := by decide +kernel
theorem dX12_inside_151 : decode cX12_inside 151 = .ok (.iaload, 1) := by decide +kernel
theorem dX12_inside_152 : decode cX12_inside 152 = .ok (.if_icmp .ge 141, 3) := by decide +kernel
theorem dX12_inside_293 : decode cX12_inside 293 = .ok (.iconst 0, 1) := by decide +kernel
theorem dX12_inside_294 : decode cX12_inside 294 = .ok (.istore_n 3, 1) := by decide +kernel
theorem dX12_inside_295 : decode cX12_inside 295 = .ok (.iload_n 3, 1) := by decide +kernel
theorem dX12_inside_296 : decode cX12_inside 296 = .ok (.aload_n 0, 1) := by decide +kernel
theorem dX12_inside_297 : decode cX12_inside 297 = .ok (.getfield 7, 3) := by decide +kernel
theorem dX12_inside_300 : decode cX12_inside 300 = .ok (.iconst 1, 1) := by decide +kernel
theorem dX12_inside_301 : decode cX12_inside 301 = .ok (.iaload, 1) := by decide +kernel
theorem dX12_inside_302 : decode cX12_inside 302 = .ok (.if_icmp .ge 107, 3) := by decide +kernel
theorem dX12_inside_409 : decode cX12_inside 409 = .ok (.iconst 0, 1) := by decide +kernel
theorem dX12_inside_410 : decode cX12_inside 410 = .ok (.istore_n 3, 1) := by decide +kernel
theorem dX12_inside_411 : decode cX12_inside 411 = .ok (.iload_n 3, 1) := by decide +kernel
theorem dX12_inside_412 : decode cX12_inside 412 = .ok (.aload_n 0, 1) := by decide +kernel
theorem dX12_inside_413 : decode cX12_inside 413 = .ok (.getfield 7, 3) := by decide +kernel
theorem dX12_inside_416 : decode cX12_inside 416 = .ok (.iconst 1, 1) := by decide +kernel
theorem dX12_inside_417 : decode cX12_inside 417 = .ok (.iaload, 1) := by decide +kernel
theorem dX12_inside_418 : decode cX12_inside 418 = .ok (.if_icmp .ge 80, 3) := by decide +kernel
theorem dX12_inside_498 : decode cX12_inside 498 = .ok (.return_, 1) := by decide +kernel
set_option maxRecDepth 100000 in
set_option maxHeartbeats 4000000 in
theorem c_X12_inside {l : Launch} {n0 : Nat} {D : va_G} {cA : Nat → ClassId} {M : gM} (a : Int) (r_a : -2147483648 ≤ a ∧ a ≤ 2147483647) {sz : Nat} (hsz : 206 ≤ sz) (f_190_1 : M 190 1 = 192) (f_191_1 : M 191 1 = 0) (f_191_4 : M 191 4 = 0) (hab : 0 ≤ a ∧ a ≤ 299) : Met l yX12_inside (gWsOf yX12_inside cX12_inside 7 (Option.none : Option Jvm.ClassFile.FieldType)) { frames := 3, cells := 0, slots := 0, locals := 72 } (gPc n0 D cA [gA n0 190, gJ a] M sz) (gQv n0 D cA sz (fun M1 => ∀ a : Int, M1 a = M a)) 0 0 (fun q => n0 ≤ q) := by
  refine gMet_of [gA n0 190, gJ a] (by decide) (Nat.le_of_ble_eq_true rfl) ?_
  intro p e s m args below meth cd X hr hm
  have X : gCx p s m args meth cd n0 D cA "ParishUnionModel" cX12_inside 7 := X
  show G p l e ({ frames := 3, cells := 0, slots := 0, locals := 72 } : Room) s m args below meth cd n0 D cA 7 (MQ below (gQv n0 D cA sz (fun M1 => ∀ a : Int, M1 a = M a)) args s 0 0 (fun q => n0 ≤ q)) 0 0 M sz 0 [(0, gA n0 190), (1, gJ a)] []
  refine g_aload_n (n := 1) X 0 dX12_inside_0 rfl rfl rfl ?_
  refine g_iconst (n := 2) X dX12_inside_1 rfl ?_
  refine g_iload_n (n := 3) X 1 dX12_inside_2 rfl rfl rfl ?_
  refine g_callVi (n := 6) (As := [gJ 2, gJ a]) (rest := []) (cs1 := 0) (ss1 := 0) X (c_X12_law 2 a (by omega) (by omega) (by omega) f_190_1 f_191_4 (by omega)) okX12_law kw_6_193 ⟨kw_6_195, kw_0_49⟩ ⟨rfl, rfl⟩ ⟨Nat.le_of_ble_eq_true rfl, Nat.le_of_ble_eq_true rfl⟩ rfl (by omega) (by omega) lay_190 rfl rfl (Nat.le_of_ble_eq_true rfl) ⟨Nat.le_of_ble_eq_true rfl, Nat.le_of_ble_eq_true rfl⟩ rfl rfl dX12_inside_3 rfl (fun z1 M2 P3 => ?_)
  obtain ⟨rfl, P3⟩ := P3
  refine g_istore_n (n := 7) (L' := [(2, gJ z1), (0, gA n0 190), (1, gJ a)]) X dX12_inside_6 rfl (by decide) rfl rfl ?_
  refine g_iconst (n := 8) X dX12_inside_7 rfl ?_
  refine g_istore_n (n := 9) (L' := [(3, gJ 0), (2, gJ z1), (0, gA n0 190), (1, gJ a)]) X dX12_inside_8 rfl (by decide) rfl rfl ?_
  refine g_iload_n (n := 10) X 0 dX12_inside_9 rfl rfl rfl ?_
  refine g_aload_n (n := 11) X 2 dX12_inside_10 rfl rfl rfl ?_
  refine gg_12_1 (n := 14) (z := 191) X (by omega) (by omega) lay_190 kw_6_27 dX12_inside_11 rfl f_190_1 (by omega) ?_
  refine g_iconst (n := 15) X dX12_inside_14 rfl ?_
  refine g_iald (n := 16) X (by omega) (by omega) lay_191 (by omega) (by omega) (by omega) dX12_inside_15 rfl ?_
  rw [show M 191 1 = 0 from f_191_1]
  refine g_icmp_ge (n := 19) (tgt := 143) X dX12_inside_16 (by decide) (by omega) (by omega) rfl (fun c4 => ?_) (fun c4 => by exfalso; omega)
  refine g_iconst (n := 144) X dX12_inside_143 rfl ?_
  refine g_istore_n (n := 145) (L' := [(3, gJ 0), (2, gJ z1), (0, gA n0 190), (1, gJ a)]) X dX12_inside_144 rfl (by decide) rfl rfl ?_
  refine g_iload_n (n := 146) X 0 dX12_inside_145 rfl rfl rfl ?_
  refine g_aload_n (n := 147) X 2 dX12_inside_146 rfl rfl rfl ?_
  refine gg_12_1 (n := 150) (z := 191) X (by omega) (by omega) lay_190 kw_6_27 dX12_inside_147 rfl f_190_1 (by omega) ?_
  refine g_iconst (n := 151) X dX12_inside_150 rfl ?_
  refine g_iald (n := 152) X (by omega) (by omega) lay_191 (by omega) (by omega) (by omega) dX12_inside_151 rfl ?_
  rw [show M 191 1 = 0 from f_191_1]
  refine g_icmp_ge (n := 155) (tgt := 293) X dX12_inside_152 (by decide) (by omega) (by omega) rfl (fun c5 => ?_) (fun c5 => by exfalso; omega)
  refine g_iconst (n := 294) X dX12_inside_293 rfl ?_
  refine g_istore_n (n := 295) (L' := [(3, gJ 0), (2, gJ z1), (0, gA n0 190), (1, gJ a)]) X dX12_inside_294 rfl (by decide) rfl rfl ?_
  refine g_iload_n (n := 296) X 0 dX12_inside_295 rfl rfl rfl ?_
  refine g_aload_n (n := 297) X 2 dX12_inside_296 rfl rfl rfl ?_
  refine gg_12_1 (n := 300) (z := 191) X (by omega) (by omega) lay_190 kw_6_27 dX12_inside_297 rfl f_190_1 (by omega) ?_
  refine g_iconst (n := 301) X dX12_inside_300 rfl ?_
  refine g_iald (n := 302) X (by omega) (by omega) lay_191 (by omega) (by omega) (by omega) dX12_inside_301 rfl ?_
  rw [show M 191 1 = 0 from f_191_1]
  refine g_icmp_ge (n := 305) (tgt := 409) X dX12_inside_302 (by decide) (by omega) (by omega) rfl (fun c6 => ?_) (fun c6 => by exfalso; omega)
  refine g_iconst (n := 410) X dX12_inside_409 rfl ?_
  refine g_istore_n (n := 411) (L' := [(3, gJ 0), (2, gJ z1), (0, gA n0 190), (1, gJ a)]) X dX12_inside_410 rfl (by decide) rfl rfl ?_
  refine g_iload_n (n := 412) X 0 dX12_inside_411 rfl rfl rfl ?_
  refine g_aload_n (n := 413) X 2 dX12_inside_412 rfl rfl rfl ?_
  refine gg_12_1 (n := 416) (z := 191) X (by omega) (by omega) lay_190 kw_6_27 dX12_inside_413 rfl f_190_1 (by omega) ?_
  refine g_iconst (n := 417) X dX12_inside_416 rfl ?_
  refine g_iald (n := 418) X (by omega) (by omega) lay_191 (by omega) (by omega) (by omega) dX12_inside_417 rfl ?_
  rw [show M 191 1 = 0 from f_191_1]
  refine g_icmp_ge (n := 421) (tgt := 498) X dX12_inside_418 (by decide) (by omega) (by omega) rfl (fun c7 => ?_) (fun c7 => by exfalso; omega)
  exact g_return X hr dX12_inside_498 (by exact (fun a  => rfl))
theorem dX12_goes_0 : decode cX12_goes 0 = .ok (.aload_n 0, 1) := by decide +kernel
theorem dX12_goes_1 : decode cX12_goes 1 = .ok (.getfield 7, 3) := by decide +kernel
theorem dX12_goes_4 : decode cX12_goes 4 = .ok (.iconst 0, 1) := by decide +kernel
theorem dX12_goes_5 : decode cX12_goes 5 = .ok (.iaload, 1) := by decide +kernel
theorem dX12_goes_6 : decode cX12_goes 6 = .ok (.istore_n 1, 1) := by decide +kernel
theorem dX12_goes_7 : decode cX12_goes 7 = .ok (.iconst 0, 1) := by decide +kernel
theorem dX12_goes_8 : decode cX12_goes 8 = .ok (.istore_n 2, 1) := by decide +kernel
theorem dX12_goes_9 : decode cX12_goes 9 = .ok (.iload_n 2, 1) := by decide +kernel
theorem dX12_goes_10 : decode cX12_goes 10 = .ok (.bipush 6, 2) := by decide +kernel
theorem dX12_goes_12 : decode cX12_goes 12 = .ok (.if_icmp .ge 26, 3) := by decide +kernel
theorem dX12_goes_38 : decode cX12_goes 38 = .ok (.iconst 0, 1) := by decide +kernel
theorem dX12_goes_39 : decode cX12_goes 39 = .ok (.istore_n 2, 1) := by decide +kernel
theorem dX12_goes_40 : decode cX12_goes 40 = .ok (.iload_n 2, 1) := by decide +kernel
theorem dX12_goes_41 : decode cX12_goes 41 = .ok (.bipush 16, 2) := by decide +kernel
theorem dX12_goes_43 : decode cX12_goes 43 = .ok (.if_icmp .ge 60, 3) := by decide +kernel
theorem dX12_goes_103 : decode cX12_goes 103 = .ok (.aload_n 0, 1) := by decide +kernel
theorem dX12_goes_104 : decode cX12_goes 104 = .ok (.iload_n 1, 1) := by decide +kernel
theorem dX12_goes_105 : decode cX12_goes 105 = .ok (.invokevirtual 266, 3) := by decide +kernel
theorem kw_7_146 : (Jvm.Cond.methodLink "ParishUnionModel" (266 : Nat) ({ cls := "ParishUnionModel", name := "outside", desc := "(I)V" } : Jvm.MethodName)) ∈ gT := gT_of (tb_7 _ (List.mem_of_getElem? (i := 146) rfl)) rfl
theorem kw_7_149 : (Jvm.Cond.code ({ cls := "ParishUnionModel", name := "outside", desc := "(I)V" } : Jvm.MethodName) prog_14_method_75_code (4 : Nat) (Option.none : Option Jvm.ClassFile.FieldType)) ∈ gT := gT_of (tb_7 _ (List.mem_of_getElem? (i := 149) rfl)) rfl
theorem okX12_outside : gQok yX12_outside cX12_outside 4 (Option.none : Option Jvm.ClassFile.FieldType) 1 := ⟨kw_7_149, kw_1_13, by decide +kernel, by decide +kernel, by decide +kernel⟩
theorem kw_7_148 : (Jvm.Cond.instanceMethod ({ cls := "ParishUnionModel", name := "outside", desc := "(I)V" } : Jvm.MethodName)) ∈ gT := gT_of (tb_7 _ (List.mem_of_getElem? (i := 148) rfl)) rfl
theorem kw_0_77 : (Jvm.Cond.selects "ParishUnionModel" ({ cls := "ParishUnionModel", name := "outside", desc := "(I)V" } : Jvm.MethodName) ({ cls := "ParishUnionModel", name := "outside", desc := "(I)V" } : Jvm.MethodName)) ∈ gT := gT_of (tb_0 _ (List.mem_of_getElem? (i := 77) rfl)) rfl
theorem dX12_goes_108 : decode cX12_goes 108 = .ok (.aload_n 0, 1) := by decide +kernel
theorem dX12_goes_109 : decode cX12_goes 109 = .ok (.iload_n 1, 1) := by decide +kernel
theorem dX12_goes_110 : decode cX12_goes 110 = .ok (.invokevirtual 269, 3) := by decide +kernel
theorem kw_7_158 : (Jvm.Cond.methodLink "ParishUnionModel" (269 : Nat) ({ cls := "ParishUnionModel", name := "inside", desc := "(I)V" } : Jvm.MethodName)) ∈ gT := gT_of (tb_7 _ (List.mem_of_getElem? (i := 158) rfl)) rfl
theorem kw_7_161 : (Jvm.Cond.code ({ cls := "ParishUnionModel", name := "inside", desc := "(I)V" } : Jvm.MethodName) prog_14_method_76_code (7 : Nat) (Option.none : Option Jvm.ClassFile.FieldType)) ∈ gT := gT_of (tb_7 _ (List.mem_of_getElem? (i := 161) rfl)) rfl
theorem okX12_inside : gQok yX12_inside cX12_inside 7 (Option.none : Option Jvm.ClassFile.FieldType) 1 := ⟨kw_7_161, kw_1_13, by decide +kernel, by decide +kernel, by decide +kernel⟩
theorem kw_7_160 : (Jvm.Cond.instanceMethod ({ cls := "ParishUnionModel", name := "inside", desc := "(I)V" } : Jvm.MethodName)) ∈ gT := gT_of (tb_7 _ (List.mem_of_getElem? (i := 160) rfl)) rfl
theorem kw_0_80 : (Jvm.Cond.selects "ParishUnionModel" ({ cls := "ParishUnionModel", name := "inside", desc := "(I)V" } : Jvm.MethodName) ({ cls := "ParishUnionModel", name := "inside", desc := "(I)V" } : Jvm.MethodName)) ∈ gT := gT_of (tb_0 _ (List.mem_of_getElem? (i := 80) rfl)) rfl
theorem dX12_goes_113 : decode cX12_goes 113 = .ok (.iconst 0, 1) := by decide +kernel
theorem dX12_goes_114 : decode cX12_goes 114 = .ok (.istore_n 2, 1) := by decide +kernel
theorem dX12_goes_115 : decode cX12_goes 115 = .ok (.iload_n 2, 1) := by decide +kernel
theorem dX12_goes_116 : decode cX12_goes 116 = .ok (.aload_n 0, 1) := by decide +kernel
theorem dX12_goes_117 : decode cX12_goes 117 = .ok (.getfield 7, 3) := by decide +kernel
theorem dX12_goes_120 : decode cX12_goes 120 = .ok (.iconst 1, 1) := by decide +kernel
theorem dX12_goes_121 : decode cX12_goes 121 = .ok (.iaload, 1) := by decide +kernel
theorem dX12_goes_122 : decode cX12_goes 122 = .ok (.if_icmp .ge 35, 3) := by decide +kernel
theorem dX12_goes_157 : decode cX12_goes 157 = .ok (.aload_n 0, 1) := by decide +kernel
theorem dX12_goes_158 : decode cX12_goes 158 = .ok (.getfield 7, 3) := by decide +kernel
theorem dX12_goes_161 : decode cX12_goes 161 = .ok (.sipush 25000, 3) := by decide +kernel
theorem dX12_goes_164 : decode cX12_goes 164 = .ok (.iload_n 1, 1) := by decide +kernel
theorem dX12_goes_165 : decode cX12_goes 165 = .ok (.iadd, 1) := by decide +kernel
theorem dX12_goes_166 : decode cX12_goes 166 = .ok (.aload_n 0, 1) := by decide +kernel
theorem dX12_goes_167 : decode cX12_goes 167 = .ok (.getfield 7, 3) := by decide +kernel
theorem dX12_goes_170 : decode cX12_goes 170 = .ok (.iconst 1, 1) := by decide +kernel
theorem dX12_goes_171 : decode cX12_goes 171 = .ok (.iaload, 1) := by decide +kernel
theorem dX12_goes_172 : decode cX12_goes 172 = .ok (.iastore, 1) := by decide +kernel
theorem dX12_goes_173 : decode cX12_goes 173 = .ok (.aload_n 0, 1) := by decide +kernel
theorem dX12_goes_174 : decode cX12_goes 174 = .ok (.getfield 7, 3) := by decide +kernel
theorem dX12_goes_177 : decode cX12_goes 177 = .ok (.iconst 0, 1) := by decide +kernel
theorem dX12_goes_178 : decode cX12_goes 178 = .ok (.dup2, 1) := by decide +kernel
theorem dX12_goes_179 : decode cX12_goes 179 = .ok (.iaload, 1) := by decide +kernel
theorem dX12_goes_180 : decode cX12_goes 180 = .ok (.iconst 1, 1) := by decide +kernel
theorem dX12_goes_181 : decode cX12_goes 181 = .ok (.iadd, 1) := by decide +kernel
theorem dX12_goes_182 : decode cX12_goes 182 = .ok (.iastore, 1) := by decide +kernel
theorem dX12_goes_183 : decode cX12_goes 183 = .ok (.return_, 1) := by decide +kernel
theorem dX12_goes_46 : decode cX12_goes 46 = .ok (.aload_n 0, 1) := by decide +kernel
theorem dX12_goes_47 : decode cX12_goes 47 = .ok (.getfield 7, 3) := by decide +kernel
theorem dX12_goes_50 : decode cX12_goes 50 = .ok (.sipush 10216, 3) := by decide +kernel
theorem dX12_goes_53 : decode cX12_goes 53 = .ok (.sipush 301, 3) := by decide +kernel
theorem dX12_goes_56 : decode cX12_goes 56 = .ok (.iload_n 2, 1) := by decide +kernel
theorem dX12_goes_57 : decode cX12_goes 57 = .ok (.imul, 1) := by decide +kernel
theorem dX12_goes_58 : decode cX12_goes 58 = .ok (.iadd, 1) := by decide +kernel
theorem dX12_goes_59 : decode cX12_goes 59 = .ok (.iload_n 1, 1) := by decide +kernel
theorem dX12_goes_60 : decode cX12_goes 60 = .ok (.iadd, 1) := by decide +kernel
theorem dX12_goes_61 : decode cX12_goes 61 = .ok (.iconst 0, 1) := by decide +kernel
theorem dX12_goes_62 : decode cX12_goes 62 = .ok (.iastore, 1) := by decide +kernel
theorem dX12_goes_63 : decode cX12_goes 63 = .ok (.aload_n 0, 1) := by decide +kernel
theorem dX12_goes_64 : decode cX12_goes 64 = .ok (.getfield 7, 3) := by decide +kernel
theorem dX12_goes_67 : decode cX12_goes 67 = .ok (.sipush 15032, 3) := by decide +kernel
theorem dX12_goes_70 : decode cX12_goes 70 = .ok (.sipush 301, 3) := by decide +kernel
theorem dX12_goes_73 : decode cX12_goes 73 = .ok (.iload_n 2, 1) := by decide +kernel
theorem dX12_goes_74 : decode cX12_goes 74 = .ok (.imul, 1) := by decide +kernel
theorem dX12_goes_75 : decode cX12_goes 75 = .ok (.iadd, 1) := by decide +kernel
theorem dX12_goes_76 : decode cX12_goes 76 = .ok (.iload_n 1, 1) := by decide +kernel
theorem dX12_goes_77 : decode cX12_goes 77 = .ok (.iadd, 1) := by decide +kernel
theorem dX12_goes_78 : decode cX12_goes 78 = .ok (.iconst 0, 1) := by decide +kernel
theorem dX12_goes_79 : decode cX12_goes 79 = .ok (.iastore, 1) := by decide +kernel
theorem dX12_goes_80 : decode cX12_goes 80 = .ok (.aload_n 0, 1) := by decide +kernel
theorem dX12_goes_81 : decode cX12_goes 81 = .ok (.getfield 7, 3) := by decide +kernel
theorem dX12_goes_84 : decode cX12_goes 84 = .ok (.sipush 19848, 3) := by decide +kernel
theorem dX12_goes_87 : decode cX12_goes 87 = .ok (.sipush 301, 3) := by decide +kernel
theorem dX12_goes_90 : decode cX12_goes 90 = .ok (.iload_n 2, 1) := by decide +kernel
theorem dX12_goes_91 : decode cX12_goes 91 = .ok (.imul, 1) := by decide +kernel
theorem dX12_goes_92 : decode cX12_goes 92 = .ok (.iadd, 1) := by decide +kernel
theorem dX12_goes_93 : decode cX12_goes 93 = .ok (.iload_n 1, 1) := by decide +kernel
theorem dX12_goes_94 : decode cX12_goes 94 = .ok (.iadd, 1) := by decide +kernel
theorem dX12_goes_95 : decode cX12_goes 95 = .ok (.iconst 0, 1) := by decide +kernel
theorem dX12_goes_96 : decode cX12_goes 96 = .ok (.iastore, 1) := by decide +kernel
theorem dX12_goes_97 : decode cX12_goes 97 = .ok (.iinc 2 1, 3) := by decide +kernel
theorem dX12_goes_100 : decode cX12_goes 100 = .ok (.goto (-60), 3) := by decide +kernel
theorem dX12_goes_15 : decode cX12_goes 15 = .ok (.aload_n 0, 1) := by decide +kernel
theorem dX12_goes_16 : decode cX12_goes 16 = .ok (.getfield 7, 3) := by decide +kernel
theorem dX12_goes_19 : decode cX12_goes 19 = .ok (.sipush 3200, 3) := by decide +kernel
theorem dX12_goes_22 : decode cX12_goes 22 = .ok (.sipush 301, 3) := by decide +kernel
theorem dX12_goes_25 : decode cX12_goes 25 = .ok (.iload_n 2, 1) := by decide +kernel
theorem dX12_goes_26 : decode cX12_goes 26 = .ok (.imul, 1) := by decide +kernel
theorem dX12_goes_27 : decode cX12_goes 27 = .ok (.iadd, 1) := by decide +kernel
theorem dX12_goes_28 : decode cX12_goes 28 = .ok (.iload_n 1, 1) := by decide +kernel
theorem dX12_goes_29 : decode cX12_goes 29 = .ok (.iadd, 1) := by decide +kernel
theorem dX12_goes_30 : decode cX12_goes 30 = .ok (.iconst 0, 1) := by decide +kernel
theorem dX12_goes_31 : decode cX12_goes 31 = .ok (.iastore, 1) := by decide +kernel
theorem dX12_goes_32 : decode cX12_goes 32 = .ok (.iinc 2 1, 3) := by decide +kernel
theorem dX12_goes_35 : decode cX12_goes 35 = .ok (.goto (-26), 3) := by decide +kernel
set_option maxRecDepth 100000 in
set_option maxHeartbeats 4000000 in
theorem c_X12_goes {l : Launch} {n0 : Nat} {D : va_G} {cA : Nat → ClassId} {M : gM}  {sz : Nat} (hsz : 206 ≤ sz) (w : Int) (q_w : 0 ≤ w ∧ w ≤ 299) (f_190_1 : M 190 1 = 192) (f_191_0 : M 191 0 = w) (f_191_1 : M 191 1 = 0) (f_191_4 : M 191 4 = 0) : Met l yX12_goes (gWsOf yX12_goes cX12_goes 3 (Option.none : Option Jvm.ClassFile.FieldType)) { frames := 142, cells := 0, slots := 0, locals := 5990 } (gPc n0 D cA [gA n0 190] M sz) (gQv n0 D cA sz (fun M1 => M1 191 0 = w + 1 ∧ M1 191 1 = 0 ∧ M1 191 4 = 0 ∧ ∀ a : Int, a ≠ 191 → M1 a = M a)) 0 0 (fun q => n0 ≤ q) := by
  refine gMet_of [gA n0 190] (by decide) (Nat.le_of_ble_eq_true rfl) ?_
  intro p e s m args below meth cd X hr hm
  have X : gCx p s m args meth cd n0 D cA "ParishUnionModel" cX12_goes 3 := X
  show G p l e ({ frames := 142, cells := 0, slots := 0, locals := 5990 } : Room) s m args below meth cd n0 D cA 3 (MQ below (gQv n0 D cA sz (fun M1 => M1 191 0 = w + 1 ∧ M1 191 1 = 0 ∧ M1 191 4 = 0 ∧ ∀ a : Int, a ≠ 191 → M1 a = M a)) args s 0 0 (fun q => n0 ≤ q)) 0 0 M sz 0 [(0, gA n0 190)] []
  refine g_aload_n (n := 1) X 0 dX12_goes_0 rfl rfl rfl ?_
  refine gg_12_1 (n := 4) (z := 191) X (by omega) (by omega) lay_190 kw_6_27 dX12_goes_1 rfl f_190_1 (by omega) ?_
  refine g_iconst (n := 5) X dX12_goes_4 rfl ?_
  refine g_iald (n := 6) X (by omega) (by omega) lay_191 (by omega) (by omega) (by omega) dX12_goes_5 rfl ?_
  rw [show M 191 0 = w from f_191_0]
  refine g_istore_n (n := 7) (L' := [(1, gJ w), (0, gA n0 190)]) X dX12_goes_6 rfl (by decide) rfl rfl ?_
  refine g_iconst (n := 8) X dX12_goes_7 rfl ?_
  refine g_istore_n (n := 9) (L' := [(2, gJ 0), (1, gJ w), (0, gA n0 190)]) X dX12_goes_8 rfl (by decide) rfl rfl ?_
  have loop1 : ∀ (N3 : Nat) (j : Int) (M5 : gM), (∀ a : Int, a ≠ 191 → M5 a = M a) → M5 191 0 = w → M5 191 1 = 0 → M5 191 4 = 0 → (0 ≤ j ∧ j ≤ 6) → (6 - j).toNat < N3 → G p l e ({ frames := 142, cells := 0, slots := 0, locals := 5990 } : Room) s m args below meth cd n0 D cA 3 (MQ below (gQv n0 D cA sz (fun M1 => M1 191 0 = w + 1 ∧ M1 191 1 = 0 ∧ M1 191 4 = 0 ∧ ∀ a : Int, a ≠ 191 → M1 a = M a)) args s 0 0 (fun q => n0 ≤ q)) 0 0 M5 sz 9 [(0, gA n0 190), (1, gJ w), (2, gJ j)] [] := by
    intro N3; induction N3 with
    | zero => intro j M5 F6 g7 g8 g9 ij hm4; exfalso; omega
    | succ N3 ih2 =>
      intro j M5 F6 g7 g8 g9 ij hm4
      refine g_iload_n (n := 10) X 2 dX12_goes_9 rfl rfl rfl ?_
      refine g_bipush (n := 12) X dX12_goes_10 (by decide +kernel) rfl ?_
      refine g_icmp_ge (n := 15) (tgt := 38) X dX12_goes_12 (by decide) (by omega) (by omega) rfl (fun c10 => ?_) (fun c10 => ?_)
      · refine g_iconst (n := 39) X dX12_goes_38 rfl ?_
        refine g_istore_n (n := 40) (L' := [(2, gJ 0), (0, gA n0 190), (1, gJ w)]) X dX12_goes_39 rfl (by decide) rfl rfl ?_
        have loop11 : ∀ (N13 : Nat) (j : Int) (M15 : gM), (∀ a : Int, a ≠ 191 → M15 a = M5 a) → M15 191 0 = w → M15 191 1 = 0 → M15 191 4 = 0 → (0 ≤ j ∧ j ≤ 16) → (16 - j).toNat < N13 → G p l e ({ frames := 142, cells := 0, slots := 0, locals := 5990 } : Room) s m args below meth cd n0 D cA 3 (MQ below (gQv n0 D cA sz (fun M1 => M1 191 0 = w + 1 ∧ M1 191 1 = 0 ∧ M1 191 4 = 0 ∧ ∀ a : Int, a ≠ 191 → M1 a = M a)) args s 0 0 (fun q => n0 ≤ q)) 0 0 M15 sz 40 [(0, gA n0 190), (1, gJ w), (2, gJ j)] [] := by
          intro N13; induction N13 with
          | zero => intro j M15 F16 g17 g18 g19 ij hm14; exfalso; omega
          | succ N13 ih12 =>
            intro j M15 F16 g17 g18 g19 ij hm14
            refine g_iload_n (n := 41) X 2 dX12_goes_40 rfl rfl rfl ?_
            refine g_bipush (n := 43) X dX12_goes_41 (by decide +kernel) rfl ?_
            refine g_icmp_ge (n := 46) (tgt := 103) X dX12_goes_43 (by decide) (by omega) (by omega) rfl (fun c20 => ?_) (fun c20 => ?_)
            · refine g_aload_n (n := 104) X 0 dX12_goes_103 rfl rfl rfl ?_
              refine g_iload_n (n := 105) X 1 dX12_goes_104 rfl rfl rfl ?_
              refine g_callVv (n := 108) (As := [gJ w]) (rest := []) (cs1 := 0) (ss1 := 0) X (c_X12_outside w (by omega) (by omega) ((congrFun (F16 190 (by omega)) _).trans ((congrFun (F6 190 (by omega)) _).trans f_190_1)) g18) okX12_outside kw_7_146 ⟨kw_7_148, kw_0_77⟩ ⟨rfl, rfl⟩ ⟨Nat.le_of_ble_eq_true rfl, Nat.le_of_ble_eq_true rfl⟩ rfl (by omega) (by omega) lay_190 rfl rfl (Nat.le_of_ble_eq_true rfl) ⟨Nat.le_of_ble_eq_true rfl, Nat.le_of_ble_eq_true rfl⟩ rfl rfl dX12_goes_105 rfl (fun M22 P23 => ?_)
              have F24 := P23
              refine g_aload_n (n := 109) X 0 dX12_goes_108 rfl rfl rfl ?_
              refine g_iload_n (n := 110) X 1 dX12_goes_109 rfl rfl rfl ?_
              refine g_callVv (n := 113) (As := [gJ w]) (rest := []) (cs1 := 0) (ss1 := 0) X (c_X12_inside w (by omega) (by omega) ((congrFun (F24 190) _).trans ((congrFun (F16 190 (by omega)) _).trans ((congrFun (F6 190 (by omega)) _).trans f_190_1))) ((congrFun (F24 191) _).trans g18) ((congrFun (F24 191) _).trans g19) (by omega)) okX12_inside kw_7_158 ⟨kw_7_160, kw_0_80⟩ ⟨rfl, rfl⟩ ⟨Nat.le_of_ble_eq_true rfl, Nat.le_of_ble_eq_true rfl⟩ rfl (by omega) (by omega) lay_190 rfl rfl (Nat.le_of_ble_eq_true rfl) ⟨Nat.le_of_ble_eq_true rfl, Nat.le_of_ble_eq_true rfl⟩ rfl rfl dX12_goes_110 rfl (fun M26 P27 => ?_)
              have F28 := P27
              refine g_iconst (n := 114) X dX12_goes_113 rfl ?_
              refine g_istore_n (n := 115) (L' := [(2, gJ 0), (0, gA n0 190), (1, gJ w)]) X dX12_goes_114 rfl (by decide) rfl rfl ?_
              refine g_iload_n (n := 116) X 0 dX12_goes_115 rfl rfl rfl ?_
              refine g_aload_n (n := 117) X 1 dX12_goes_116 rfl rfl rfl ?_
              refine gg_12_1 (n := 120) (z := 191) X (by omega) (by omega) lay_190 kw_6_27 dX12_goes_117 rfl ((congrFun (F28 190) _).trans ((congrFun (F24 190) _).trans ((congrFun (F16 190 (by omega)) _).trans ((congrFun (F6 190 (by omega)) _).trans f_190_1)))) (by omega) ?_
              refine g_iconst (n := 121) X dX12_goes_120 rfl ?_
              refine g_iald (n := 122) X (by omega) (by omega) lay_191 (by omega) (by omega) (by omega) dX12_goes_121 rfl ?_
              rw [show M26 191 1 = 0 from ((congrFun (F28 191) _).trans ((congrFun (F24 191) _).trans g18))]
              refine g_icmp_ge (n := 125) (tgt := 157) X dX12_goes_122 (by decide) (by omega) (by omega) rfl (fun c29 => ?_) (fun c29 => by exfalso; omega)
              refine g_aload_n (n := 158) X 1 dX12_goes_157 rfl rfl rfl ?_
              refine gg_12_1 (n := 161) (z := 191) X (by omega) (by omega) lay_190 kw_6_27 dX12_goes_158 rfl ((congrFun (F28 190) _).trans ((congrFun (F24 190) _).trans ((congrFun (F16 190 (by omega)) _).trans ((congrFun (F6 190 (by omega)) _).trans f_190_1)))) (by omega) ?_
              refine g_sipush (n := 164) X dX12_goes_161 (by decide +kernel) rfl ?_
              refine g_iload_n (n := 165) X 2 dX12_goes_164 rfl rfl rfl ?_
              refine g_iadd (n := 166) (z := 25000 + w) X dX12_goes_165 rfl rfl ?_
              refine g_aload_n (n := 167) X 1 dX12_goes_166 rfl rfl rfl ?_
              refine gg_12_1 (n := 170) (z := 191) X (by omega) (by omega) lay_190 kw_6_27 dX12_goes_167 rfl ((congrFun (F28 190) _).trans ((congrFun (F24 190) _).trans ((congrFun (F16 190 (by omega)) _).trans ((congrFun (F6 190 (by omega)) _).trans f_190_1)))) (by omega) ?_
              refine g_iconst (n := 171) X dX12_goes_170 rfl ?_
              refine g_iald (n := 172) X (by omega) (by omega) lay_191 (by omega) (by omega) (by omega) dX12_goes_171 rfl ?_
              rw [show M26 191 1 = 0 from ((congrFun (F28 191) _).trans ((congrFun (F24 191) _).trans g18))]
              refine g_iast (n := 173) X (by omega) (by omega) lay_191 (by omega) (by omega) (by omega) dX12_goes_172 rfl ?_
              refine G.nm (fun M30 e31 => ?_)
              refine g_aload_n (n := 174) X 1 dX12_goes_173 rfl rfl rfl ?_
              refine gg_12_1 (n := 177) (z := 191) X (by omega) (by omega) lay_190 kw_6_27 dX12_goes_174 rfl ((congrFun (congrFun e31 _) _).trans ((gset_ne (by omega)).trans ((congrFun (F28 190) _).trans ((congrFun (F24 190) _).trans ((congrFun (F16 190 (by omega)) _).trans ((congrFun (F6 190 (by omega)) _).trans f_190_1)))))) (by omega) ?_
              refine g_iconst (n := 178) X dX12_goes_177 rfl ?_
              refine g_dup2 (n := 179) X dX12_goes_178 rfl rfl rfl ?_
              refine g_iald (n := 180) X (by omega) (by omega) lay_191 (by omega) (by omega) (by omega) dX12_goes_179 rfl ?_
              rw [show M30 191 0 = w from ((congrFun (congrFun e31 _) _).trans ((gset_ne (by omega)).trans ((congrFun (F28 191) _).trans ((congrFun (F24 191) _).trans g17))))]
              refine g_iconst (n := 181) X dX12_goes_180 rfl ?_
              refine g_iadd (n := 182) (z := w + 1) X dX12_goes_181 rfl rfl ?_
              refine g_iast (n := 183) X (by omega) (by omega) lay_191 (by omega) (by omega) (by omega) dX12_goes_182 rfl ?_
              refine G.nm (fun M32 e33 => ?_)
              exact g_return X hr dX12_goes_183 (by exact ⟨((congrFun (congrFun e33 _) _).trans (gset_eq _ _ _ _)), ((congrFun (congrFun e33 _) _).trans ((gset_ne (by omega)).trans ((congrFun (congrFun e31 _) _).trans ((gset_ne (by omega)).trans ((congrFun (F28 191) _).trans ((congrFun (F24 191) _).trans g18)))))), ((congrFun (congrFun e33 _) _).trans ((gset_ne (by omega)).trans ((congrFun (congrFun e31 _) _).trans ((gset_ne (by omega)).trans ((congrFun (F28 191) _).trans ((congrFun (F24 191) _).trans g19)))))), fun a h0 => ((congrFun e33 a).trans ((gset_off a (by omega)).trans ((congrFun e31 a).trans ((gset_off a (by omega)).trans ((F28 a).trans ((F24 a).trans ((F16 a (by omega)).trans ((F6 a (by omega)).trans rfl))))))))⟩)
            · refine g_aload_n (n := 47) X 0 dX12_goes_46 rfl rfl rfl ?_
              refine gg_12_1 (n := 50) (z := 191) X (by omega) (by omega) lay_190 kw_6_27 dX12_goes_47 rfl ((congrFun (F16 190 (by omega)) _).trans ((congrFun (F6 190 (by omega)) _).trans f_190_1)) (by omega) ?_
              refine g_sipush (n := 53) X dX12_goes_50 (by decide +kernel) rfl ?_
              refine g_sipush (n := 56) X dX12_goes_53 (by decide +kernel) rfl ?_
              refine g_iload_n (n := 57) X 2 dX12_goes_56 rfl rfl rfl ?_
              refine g_imul (n := 58) (z := 301 * j) X dX12_goes_57 rfl rfl ?_
              refine g_iadd (n := 59) (z := 10216 + (301 * j)) X dX12_goes_58 rfl rfl ?_
              refine g_iload_n (n := 60) X 1 dX12_goes_59 rfl rfl rfl ?_
              refine g_iadd (n := 61) (z := (10216 + (301 * j)) + w) X dX12_goes_60 rfl rfl ?_
              refine g_iconst (n := 62) X dX12_goes_61 rfl ?_
              refine g_iast (n := 63) X (by omega) (by omega) lay_191 (by omega) (by omega) (by omega) dX12_goes_62 rfl ?_
              refine G.nm (fun M34 e35 => ?_)
              refine g_aload_n (n := 64) X 0 dX12_goes_63 rfl rfl rfl ?_
              refine gg_12_1 (n := 67) (z := 191) X (by omega) (by omega) lay_190 kw_6_27 dX12_goes_64 rfl ((congrFun (congrFun e35 _) _).trans ((gset_ne (by omega)).trans ((congrFun (F16 190 (by omega)) _).trans ((congrFun (F6 190 (by omega)) _).trans f_190_1)))) (by omega) ?_
              refine g_sipush (n := 70) X dX12_goes_67 (by decide +kernel) rfl ?_
              refine g_sipush (n := 73) X dX12_goes_70 (by decide +kernel) rfl ?_
              refine g_iload_n (n := 74) X 2 dX12_goes_73 rfl rfl rfl ?_
              refine g_imul (n := 75) (z := 301 * j) X dX12_goes_74 rfl rfl ?_
              refine g_iadd (n := 76) (z := 15032 + (301 * j)) X dX12_goes_75 rfl rfl ?_
              refine g_iload_n (n := 77) X 1 dX12_goes_76 rfl rfl rfl ?_
              refine g_iadd (n := 78) (z := (15032 + (301 * j)) + w) X dX12_goes_77 rfl rfl ?_
              refine g_iconst (n := 79) X dX12_goes_78 rfl ?_
              refine g_iast (n := 80) X (by omega) (by omega) lay_191 (by omega) (by omega) (by omega) dX12_goes_79 rfl ?_
              refine G.nm (fun M36 e37 => ?_)
              refine g_aload_n (n := 81) X 0 dX12_goes_80 rfl rfl rfl ?_
              refine gg_12_1 (n := 84) (z := 191) X (by omega) (by omega) lay_190 kw_6_27 dX12_goes_81 rfl ((congrFun (congrFun e37 _) _).trans ((gset_ne (by omega)).trans ((congrFun (congrFun e35 _) _).trans ((gset_ne (by omega)).trans ((congrFun (F16 190 (by omega)) _).trans ((congrFun (F6 190 (by omega)) _).trans f_190_1)))))) (by omega) ?_
              refine g_sipush (n := 87) X dX12_goes_84 (by decide +kernel) rfl ?_
              refine g_sipush (n := 90) X dX12_goes_87 (by decide +kernel) rfl ?_
              refine g_iload_n (n := 91) X 2 dX12_goes_90 rfl rfl rfl ?_
              refine g_imul (n := 92) (z := 301 * j) X dX12_goes_91 rfl rfl ?_
              refine g_iadd (n := 93) (z := 19848 + (301 * j)) X dX12_goes_92 rfl rfl ?_
              refine g_iload_n (n := 94) X 1 dX12_goes_93 rfl rfl rfl ?_
              refine g_iadd (n := 95) (z := (19848 + (301 * j)) + w) X dX12_goes_94 rfl rfl ?_
              refine g_iconst (n := 96) X dX12_goes_95 rfl ?_
              refine g_iast (n := 97) X (by omega) (by omega) lay_191 (by omega) (by omega) (by omega) dX12_goes_96 rfl ?_
              refine G.nm (fun M38 e39 => ?_)
              refine g_iinc (n := 100) (w := j + 1) (L' := [(2, gJ (j + 1)), (0, gA n0 190), (1, gJ w)]) X 2 dX12_goes_97 rfl rfl (by decide) rfl rfl ?_
              refine g_goto (tgt := 40) X dX12_goes_100 (by decide) ?_
              refine G.sub (L' := [(0, gA n0 190), (1, gJ w), (2, gJ (j + 1))]) [1, 2, 0] rfl ?_
              exact ih12 (j + 1) M38 (fun a h0 => ((congrFun e39 a).trans ((gset_off a (by omega)).trans ((congrFun e37 a).trans ((gset_off a (by omega)).trans ((congrFun e35 a).trans ((gset_off a (by omega)).trans ((F16 a (by omega)).trans rfl)))))))) (((congrFun (congrFun e39 _) _).trans ((gset_ne (by omega)).trans ((congrFun (congrFun e37 _) _).trans ((gset_ne (by omega)).trans ((congrFun (congrFun e35 _) _).trans ((gset_ne (by omega)).trans g17)))))).trans (by omega)) (((congrFun (congrFun e39 _) _).trans ((gset_ne (by omega)).trans ((congrFun (congrFun e37 _) _).trans ((gset_ne (by omega)).trans ((congrFun (congrFun e35 _) _).trans ((gset_ne (by omega)).trans g18)))))).trans (by omega)) (((congrFun (congrFun e39 _) _).trans ((gset_ne (by omega)).trans ((congrFun (congrFun e37 _) _).trans ((gset_ne (by omega)).trans ((congrFun (congrFun e35 _) _).trans ((gset_ne (by omega)).trans g19)))))).trans (by omega)) (by omega) (by omega)
        refine G.sub (L' := [(0, gA n0 190), (1, gJ w), (2, gJ 0)]) [1, 2, 0] rfl ?_
        exact loop11 _ 0 M5 (fun a _ => rfl) (g7.trans (by omega)) (g8.trans (by omega)) (g9.trans (by omega)) (by omega) (Nat.lt_succ_self _)
      · refine g_aload_n (n := 16) X 0 dX12_goes_15 rfl rfl rfl ?_
        refine gg_12_1 (n := 19) (z := 191) X (by omega) (by omega) lay_190 kw_6_27 dX12_goes_16 rfl ((congrFun (F6 190 (by omega)) _).trans f_190_1) (by omega) ?_
        refine g_sipush (n := 22) X dX12_goes_19 (by decide +kernel) rfl ?_
        refine g_sipush (n := 25) X dX12_goes_22 (by decide +kernel) rfl ?_
        refine g_iload_n (n := 26) X 2 dX12_goes_25 rfl rfl rfl ?_
        refine g_imul (n := 27) (z := 301 * j) X dX12_goes_26 rfl rfl ?_
        refine g_iadd (n := 28) (z := 3200 + (301 * j)) X dX12_goes_27 rfl rfl ?_
        refine g_iload_n (n := 29) X 1 dX12_goes_28 rfl rfl rfl ?_
        refine g_iadd (n := 30) (z := (3200 + (301 * j)) + w) X dX12_goes_29 rfl rfl ?_
        refine g_iconst (n := 31) X dX12_goes_30 rfl ?_
        refine g_iast (n := 32) X (by omega) (by omega) lay_191 (by omega) (by omega) (by omega) dX12_goes_31 rfl ?_
        refine G.nm (fun M40 e41 => ?_)
        refine g_iinc (n := 35) (w := j + 1) (L' := [(2, gJ (j + 1)), (0, gA n0 190), (1, gJ w)]) X 2 dX12_goes_32 rfl rfl (by decide) rfl rfl ?_
        refine g_goto (tgt := 9) X dX12_goes_35 (by decide) ?_
        refine G.sub (L' := [(0, gA n0 190), (1, gJ w), (2, gJ (j + 1))]) [1, 2, 0] rfl ?_
        exact ih2 (j + 1) M40 (fun a h0 => ((congrFun e41 a).trans ((gset_off a (by omega)).trans ((F6 a (by omega)).trans rfl)))) (((congrFun (congrFun e41 _) _).trans ((gset_ne (by omega)).trans g7)).trans (by omega)) (((congrFun (congrFun e41 _) _).trans ((gset_ne (by omega)).trans g8)).trans (by omega)) (((congrFun (congrFun e41 _) _).trans ((gset_ne (by omega)).trans g9)).trans (by omega)) (by omega) (by omega)
  refine G.sub (L' := [(0, gA n0 190), (1, gJ w), (2, gJ 0)]) [2, 1, 0] rfl ?_
  exact loop1 _ 0 M (fun a _ => rfl) (f_191_0.trans (by omega)) (f_191_1.trans (by omega)) (f_191_4.trans (by omega)) (by omega) (Nat.lt_succ_self _)
theorem dX12_week_0 : decode cX12_week 0 = .ok (.iload_n 1, 1) := by decide +kernel
theorem dX12_week_1 : decode cX12_week 1 = .ok (.iconst 1, 1) := by decide +kernel
theorem dX12_week_2 : decode cX12_week 2 = .ok (.bipush 20, 2) := by decide +kernel
theorem dX12_week_4 : decode cX12_week 4 = .ok (.invokestatic 64, 3) := by decide +kernel
theorem dX12_week_7 : decode cX12_week 7 = .ok (.ifCond .eq 17, 3) := by decide +kernel
theorem dX12_week_24 : decode cX12_week 24 = .ok (.bipush (-2), 2) := by decide +kernel
theorem dX12_week_26 : decode cX12_week 26 = .ok (.ireturn, 1) := by decide +kernel
theorem dX12_week_10 : decode cX12_week 10 = .ok (.aload_n 0, 1) := by decide +kernel
theorem dX12_week_11 : decode cX12_week 11 = .ok (.getfield 7, 3) := by decide +kernel
theorem dX12_week_14 : decode cX12_week 14 = .ok (.iconst 0, 1) := by decide +kernel
theorem dX12_week_15 : decode cX12_week 15 = .ok (.iaload, 1) := by decide +kernel
theorem dX12_week_16 : decode cX12_week 16 = .ok (.iload_n 1, 1) := by decide +kernel
theorem dX12_week_17 : decode cX12_week 17 = .ok (.iadd, 1) := by decide +kernel
theorem dX12_week_18 : decode cX12_week 18 = .ok (.sipush 300, 3) := by decide +kernel
theorem dX12_week_21 : decode cX12_week 21 = .ok (.if_icmp .le 6, 3) := by decide +kernel
theorem dX12_week_27 : decode cX12_week 27 = .ok (.iconst 0, 1) := by decide +kernel
theorem dX12_week_28 : decode cX12_week 28 = .ok (.istore_n 2, 1) := by decide +kernel
theorem dX12_week_29 : decode cX12_week 29 = .ok (.iload_n 2, 1) := by decide +kernel
theorem dX12_week_30 : decode cX12_week 30 = .ok (.iload_n 1, 1) := by decide +kernel
theorem dX12_week_31 : decode cX12_week 31 = .ok (.if_icmp .ge 13, 3) := by decide +kernel
theorem dX12_week_44 : decode cX12_week 44 = .ok (.aload_n 0, 1) := by decide +kernel
theorem dX12_week_45 : decode cX12_week 45 = .ok (.getfield 7, 3) := by decide +kernel
theorem dX12_week_48 : decode cX12_week 48 = .ok (.iconst 0, 1) := by decide +kernel
theorem dX12_week_49 : decode cX12_week 49 = .ok (.iaload, 1) := by decide +kernel
theorem dX12_week_50 : decode cX12_week 50 = .ok (.ireturn, 1) := by decide +kernel
theorem dX12_week_34 : decode cX12_week 34 = .ok (.aload_n 0, 1) := by decide +kernel
theorem dX12_week_35 : decode cX12_week 35 = .ok (.invokevirtual 272, 3) := by decide +kernel
theorem kw_7_142 : (Jvm.Cond.methodLink "ParishUnionModel" (272 : Nat) ({ cls := "ParishUnionModel", name := "goes", desc := "()V" } : Jvm.MethodName)) ∈ gT := gT_of (tb_7 _ (List.mem_of_getElem? (i := 142) rfl)) rfl
theorem kw_7_145 : (Jvm.Cond.code ({ cls := "ParishUnionModel", name := "goes", desc := "()V" } : Jvm.MethodName) prog_14_method_77_code (3 : Nat) (Option.none : Option Jvm.ClassFile.FieldType)) ∈ gT := gT_of (tb_7 _ (List.mem_of_getElem? (i := 145) rfl)) rfl
theorem okX12_goes : gQok yX12_goes cX12_goes 3 (Option.none : Option Jvm.ClassFile.FieldType) 0 := ⟨kw_7_145, kw_1_13, by decide +kernel, by decide +kernel, by decide +kernel⟩
theorem kw_7_144 : (Jvm.Cond.instanceMethod ({ cls := "ParishUnionModel", name := "goes", desc := "()V" } : Jvm.MethodName)) ∈ gT := gT_of (tb_7 _ (List.mem_of_getElem? (i := 144) rfl)) rfl
theorem kw_0_76 : (Jvm.Cond.selects "ParishUnionModel" ({ cls := "ParishUnionModel", name := "goes", desc := "()V" } : Jvm.MethodName) ({ cls := "ParishUnionModel", name := "goes", desc := "()V" } : Jvm.MethodName)) ∈ gT := gT_of (tb_0 _ (List.mem_of_getElem? (i := 76) rfl)) rfl
theorem dX12_week_38 : decode cX12_week 38 = .ok (.iinc 2 1, 3) := by decide +kernel
theorem dX12_week_41 : decode cX12_week 41 = .ok (.goto (-12), 3) := by decide +kernel
set_option maxRecDepth 100000 in
set_option maxHeartbeats 4000000 in
theorem c_X12_week {l : Launch} {n0 : Nat} {D : va_G} {cA : Nat → ClassId} {M : gM} (a : Int) (r_a : -2147483648 ≤ a ∧ a ≤ 2147483647) {sz : Nat} (hsz : 206 ≤ sz) (f_190_1 : M 190 1 = 192) (f_191_0 : M 191 0 = 0) (f_191_1 : M 191 1 = 0) (f_191_4 : M 191 4 = 0) : Met l yX12_week (gWsOf yX12_week cX12_week 3 (Option.some Jvm.ClassFile.FieldType.int)) { frames := 143, cells := 0, slots := 0, locals := 6012 } (gPc n0 D cA [gA n0 190, gJ a] M sz) (gQi n0 D cA sz (fun z M1 => (((¬(1 ≤ a ∧ a ≤ 20)) → z = -2) ∧ (¬(¬(1 ≤ a ∧ a ≤ 20)) → (z = a))) ∧ ∀ a : Int, a ≠ 191 → M1 a = M a)) 0 0 (fun q => n0 ≤ q) := by
  refine gMet_of [gA n0 190, gJ a] (by decide) (Nat.le_of_ble_eq_true rfl) ?_
  intro p e s m args below meth cd X hr hm
  have X : gCx p s m args meth cd n0 D cA "ParishUnionModel" cX12_week 3 := X
  show G p l e ({ frames := 143, cells := 0, slots := 0, locals := 6012 } : Room) s m args below meth cd n0 D cA 3 (MQ below (gQi n0 D cA sz (fun z M1 => (((¬(1 ≤ a ∧ a ≤ 20)) → z = -2) ∧ (¬(¬(1 ≤ a ∧ a ≤ 20)) → (z = a))) ∧ ∀ a : Int, a ≠ 191 → M1 a = M a)) args s 0 0 (fun q => n0 ≤ q)) 0 0 M sz 0 [(0, gA n0 190), (1, gJ a)] []
  refine g_iload_n (n := 1) X 1 dX12_week_0 rfl rfl rfl ?_
  refine g_iconst (n := 2) X dX12_week_1 rfl ?_
  refine g_bipush (n := 4) X dX12_week_2 (by decide +kernel) rfl ?_
  refine g_callSi (n := 7) (As := [gJ a, gJ 1, gJ 20]) (rest := []) (cs1 := 0) (ss1 := 0) X (c_X12_in a 1 20 (by omega) (by omega) (by omega) (by omega)) okX12_in kw_6_106 kw_6_107 ⟨rfl, rfl⟩ ⟨Nat.le_of_ble_eq_true rfl, Nat.le_of_ble_eq_true rfl⟩ rfl rfl (Nat.le_of_ble_eq_true rfl) ⟨Nat.le_of_ble_eq_true rfl, Nat.le_of_ble_eq_true rfl⟩ rfl rfl dX12_week_4 rfl (fun z1 M2 P3 => ?_)
  obtain ⟨rfl, P3⟩ := P3
  refine g_if_eq (n := 10) (tgt := 24) X dX12_week_7 (by decide) (by omega) rfl (fun c4 => ?_) (fun c4 => ?_)
  · refine g_bipush (n := 26) X dX12_week_24 (by decide +kernel) rfl ?_
    exact g_ireturn X hr dX12_week_26 (by exact ⟨by omega, fun a h0 => rfl⟩)
  · refine g_aload_n (n := 11) X 0 dX12_week_10 rfl rfl rfl ?_
    refine gg_12_1 (n := 14) (z := 191) X (by omega) (by omega) lay_190 kw_6_27 dX12_week_11 rfl f_190_1 (by omega) ?_
    refine g_iconst (n := 15) X dX12_week_14 rfl ?_
    refine g_iald (n := 16) X (by omega) (by omega) lay_191 (by omega) (by omega) (by omega) dX12_week_15 rfl ?_
    rw [show M 191 0 = 0 from f_191_0]
    refine g_iload_n (n := 17) X 1 dX12_week_16 rfl rfl rfl ?_
    refine g_iadd (n := 18) (z := 0 + a) X dX12_week_17 rfl rfl ?_
    refine g_sipush (n := 21) X dX12_week_18 (by decide +kernel) rfl ?_
    refine g_icmp_le (n := 24) (tgt := 27) X dX12_week_21 (by decide) (by omega) (by omega) rfl (fun c5 => ?_) (fun c5 => ?_)
    · refine g_iconst (n := 28) X dX12_week_27 rfl ?_
      refine g_istore_n (n := 29) (L' := [(2, gJ 0), (0, gA n0 190), (1, gJ a)]) X dX12_week_28 rfl (by decide) rfl rfl ?_
      have loop6 : ∀ (N8 : Nat) (j : Int) (M10 : gM), (∀ a : Int, a ≠ 191 → M10 a = M a) → M10 191 0 = j → M10 191 1 = 0 → M10 191 4 = 0 → (0 ≤ j ∧ j ≤ a) → (a - j).toNat < N8 → G p l e ({ frames := 143, cells := 0, slots := 0, locals := 6012 } : Room) s m args below meth cd n0 D cA 3 (MQ below (gQi n0 D cA sz (fun z M1 => (((¬(1 ≤ a ∧ a ≤ 20)) → z = -2) ∧ (¬(¬(1 ≤ a ∧ a ≤ 20)) → (z = a))) ∧ ∀ a : Int, a ≠ 191 → M1 a = M a)) args s 0 0 (fun q => n0 ≤ q)) 0 0 M10 sz 29 [(0, gA n0 190), (1, gJ a), (2, gJ j)] [] := by
        intro N8; induction N8 with
        | zero => intro j M10 F11 g12 g13 g14 ij hm9; exfalso; omega
        | succ N8 ih7 =>
          intro j M10 F11 g12 g13 g14 ij hm9
          refine g_iload_n (n := 30) X 2 dX12_week_29 rfl rfl rfl ?_
          refine g_iload_n (n := 31) X 1 dX12_week_30 rfl rfl rfl ?_
          refine g_icmp_ge (n := 34) (tgt := 44) X dX12_week_31 (by decide) (by omega) (by omega) rfl (fun c15 => ?_) (fun c15 => ?_)
          · refine g_aload_n (n := 45) X 0 dX12_week_44 rfl rfl rfl ?_
            refine gg_12_1 (n := 48) (z := 191) X (by omega) (by omega) lay_190 kw_6_27 dX12_week_45 rfl ((congrFun (F11 190 (by omega)) _).trans f_190_1) (by omega) ?_
            refine g_iconst (n := 49) X dX12_week_48 rfl ?_
            refine g_iald (n := 50) X (by omega) (by omega) lay_191 (by omega) (by omega) (by omega) dX12_week_49 rfl ?_
            rw [show M10 191 0 = j from g12]
            exact g_ireturn X hr dX12_week_50 (by exact ⟨by omega, fun a h0 => ((F11 a (by omega)).trans rfl)⟩)
          · refine g_aload_n (n := 35) X 0 dX12_week_34 rfl rfl rfl ?_
            refine g_callVv (n := 38) (As := []) (rest := []) (cs1 := 0) (ss1 := 0) X (c_X12_goes (by omega) j (by omega) ((congrFun (F11 190 (by omega)) _).trans f_190_1) g12 g13 g14) okX12_goes kw_7_142 ⟨kw_7_144, kw_0_76⟩ ⟨rfl, rfl⟩ ⟨Nat.le_of_ble_eq_true rfl, Nat.le_of_ble_eq_true rfl⟩ rfl (by omega) (by omega) lay_190 rfl rfl (Nat.le_of_ble_eq_true rfl) ⟨Nat.le_of_ble_eq_true rfl, Nat.le_of_ble_eq_true rfl⟩ rfl rfl dX12_week_35 rfl (fun M17 P18 => ?_)
            obtain ⟨g20, g21, g22, F19⟩ := P18
            refine g_iinc (n := 41) (w := j + 1) (L' := [(2, gJ (j + 1)), (0, gA n0 190), (1, gJ a)]) X 2 dX12_week_38 rfl rfl (by decide) rfl rfl ?_
            refine g_goto (tgt := 29) X dX12_week_41 (by decide) ?_
            refine G.sub (L' := [(0, gA n0 190), (1, gJ a), (2, gJ (j + 1))]) [1, 2, 0] rfl ?_
            exact ih7 (j + 1) M17 (fun a h0 => ((F19 a (by omega)).trans ((F11 a (by omega)).trans rfl))) (g20.trans (by omega)) (g21.trans (by omega)) (g22.trans (by omega)) (by omega) (by omega)
      refine G.sub (L' := [(0, gA n0 190), (1, gJ a), (2, gJ 0)]) [1, 2, 0] rfl ?_
      exact loop6 _ 0 M (fun a _ => rfl) (f_191_0.trans (by omega)) (f_191_1.trans (by omega)) (f_191_4.trans (by omega)) (by omega) (Nat.lt_succ_self _)
    · refine g_bipush (n := 26) X dX12_week_24 (by decide +kernel) rfl ?_
      exact g_ireturn X hr dX12_week_26 (by exact ⟨by omega, fun a h0 => rfl⟩)
theorem dX12_frosts_0 : decode cX12_frosts 0 = .ok (.iload_n 1, 1) := by decide +kernel
theorem dX12_frosts_1 : decode cX12_frosts 1 = .ok (.iconst 0, 1) := by decide +kernel
theorem dX12_frosts_2 : decode cX12_frosts 2 = .ok (.iconst 2, 1) := by decide +kernel
theorem dX12_frosts_3 : decode cX12_frosts 3 = .ok (.invokestatic 64, 3) := by decide +kernel
theorem dX12_frosts_6 : decode cX12_frosts 6 = .ok (.ifCond .ne 5, 3) := by decide +kernel
theorem dX12_frosts_11 : decode cX12_frosts 11 = .ok (.lconst 1, 1) := by decide +kernel
theorem dX12_frosts_12 : decode cX12_frosts 12 = .ok (.lstore 5, 2) := by decide +kernel
theorem dX12_frosts_14 : decode cX12_frosts 14 = .ok (.iconst 0, 1) := by decide +kernel
theorem dX12_frosts_15 : decode cX12_frosts 15 = .ok (.istore 7, 2) := by decide +kernel
theorem dX12_frosts_17 : decode cX12_frosts 17 = .ok (.iload 7, 2) := by decide +kernel
theorem dX12_frosts_19 : decode cX12_frosts 19 = .ok (.iload 4, 2) := by decide +kernel
theorem dX12_frosts_21 : decode cX12_frosts 21 = .ok (.if_icmp .ge 24, 3) := by decide +kernel
theorem dX12_frosts_45 : decode cX12_frosts 45 = .ok (.iload 4, 2) := by decide +kernel
theorem dX12_frosts_47 : decode cX12_frosts 47 = .ok (.iconst 1, 1) := by decide +kernel
theorem dX12_frosts_48 : decode cX12_frosts 48 = .ok (.bipush 10, 2) := by decide +kernel
theorem dX12_frosts_50 : decode cX12_frosts 50 = .ok (.invokestatic 64, 3) := by decide +kernel
theorem dX12_frosts_53 : decode cX12_frosts 53 = .ok (.ifCond .eq 16, 3) := by decide +kernel
theorem dX12_frosts_69 : decode cX12_frosts 69 = .ok (.bipush (-2), 2) := by decide +kernel
theorem dX12_frosts_71 : decode cX12_frosts 71 = .ok (.ireturn, 1) := by decide +kernel
theorem dX12_frosts_56 : decode cX12_frosts 56 = .ok (.lload_n 2, 1) := by decide +kernel
theorem dX12_frosts_57 : decode cX12_frosts 57 = .ok (.lconst 0, 1) := by decide +kernel
theorem dX12_frosts_58 : decode cX12_frosts 58 = .ok (.lcmp, 1) := by decide +kernel
theorem dX12_frosts_59 : decode cX12_frosts 59 = .ok (.ifCond .lt 10, 3) := by decide +kernel
theorem dX12_frosts_62 : decode cX12_frosts 62 = .ok (.lload_n 2, 1) := by decide +kernel
theorem dX12_frosts_63 : decode cX12_frosts 63 = .ok (.lload 5, 2) := by decide +kernel
theorem dX12_frosts_65 : decode cX12_frosts 65 = .ok (.lcmp, 1) := by decide +kernel
theorem dX12_frosts_66 : decode cX12_frosts 66 = .ok (.ifCond .lt 6, 3) := by decide +kernel
theorem dX12_frosts_72 : decode cX12_frosts 72 = .ok (.lload_n 2, 1) := by decide +kernel
theorem dX12_frosts_73 : decode cX12_frosts 73 = .ok (.lstore 7, 2) := by decide +kernel
theorem dX12_frosts_75 : decode cX12_frosts 75 = .ok (.iload 4, 2) := by decide +kernel
theorem dX12_frosts_77 : decode cX12_frosts 77 = .ok (.iconst 1, 1) := by decide +kernel
theorem dX12_frosts_78 : decode cX12_frosts 78 = .ok (.isub, 1) := by decide +kernel
theorem dX12_frosts_79 : decode cX12_frosts 79 = .ok (.istore 9, 2) := by decide +kernel
theorem dX12_frosts_81 : decode cX12_frosts 81 = .ok (.iload 9, 2) := by decide +kernel
theorem dX12_frosts_83 : decode cX12_frosts 83 = .ok (.ifCond .lt 40, 3) := by decide +kernel
theorem dX12_frosts_123 : decode cX12_frosts 123 = .ok (.aload_n 0, 1) := by decide +kernel
theorem dX12_frosts_124 : decode cX12_frosts 124 = .ok (.getfield 7, 3) := by decide +kernel
theorem dX12_frosts_127 : decode cX12_frosts 127 = .ok (.sipush 2580, 3) := by decide +kernel
theorem dX12_frosts_130 : decode cX12_frosts 130 = .ok (.iload_n 1, 1) := by decide +kernel
theorem dX12_frosts_131 : decode cX12_frosts 131 = .ok (.iadd, 1) := by decide +kernel
theorem dX12_frosts_132 : decode cX12_frosts 132 = .ok (.iload 4, 2) := by decide +kernel
theorem dX12_frosts_134 : decode cX12_frosts 134 = .ok (.iastore, 1) := by decide +kernel
theorem dX12_frosts_135 : decode cX12_frosts 135 = .ok (.iload 4, 2) := by decide +kernel
theorem dX12_frosts_137 : decode cX12_frosts 137 = .ok (.ireturn, 1) := by decide +kernel
theorem dX12_frosts_86 : decode cX12_frosts 86 = .ok (.aload_n 0, 1) := by decide +kernel
theorem dX12_frosts_87 : decode cX12_frosts 87 = .ok (.getfield 7, 3) := by decide +kernel
theorem dX12_frosts_90 : decode cX12_frosts 90 = .ok (.sipush 2584, 3) := by decide +kernel
theorem dX12_frosts_93 : decode cX12_frosts 93 = .ok (.bipush 10, 2) := by decide +kernel
theorem dX12_frosts_95 : decode cX12_frosts 95 = .ok (.iload_n 1, 1) := by decide +kernel
theorem dX12_frosts_96 : decode cX12_frosts 96 = .ok (.imul, 1) := by decide +kernel
theorem dX12_frosts_97 : decode cX12_frosts 97 = .ok (.iadd, 1) := by decide +kernel
theorem dX12_frosts_98 : decode cX12_frosts 98 = .ok (.iload 9, 2) := by decide +kernel
theorem dX12_frosts_100 : decode cX12_frosts 100 = .ok (.iadd, 1) := by decide +kernel
theorem dX12_frosts_101 : decode cX12_frosts 101 = .ok (.lload 7, 2) := by decide +kernel
theorem dX12_frosts_103 : decode cX12_frosts 103 = .ok (.ldc2_w 294, 3) := by decide +kernel
theorem kw_8_0 : (Jvm.Cond.constantLong "ParishUnionModel" (294 : Nat) (10 : Int64)) ∈ gT := gT_of (tb_8 _ (List.mem_of_getElem? (i := 0) rfl)) rfl
theorem dX12_frosts_106 : decode cX12_frosts 106 = .ok (.lrem, 1) := by decide +kernel
theorem dX12_frosts_107 : decode cX12_frosts 107 = .ok (.l2i, 1) := by decide +kernel
theorem dX12_frosts_108 : decode cX12_frosts 108 = .ok (.iastore, 1) := by decide +kernel
theorem dX12_frosts_109 : decode cX12_frosts 109 = .ok (.lload 7, 2) := by decide +kernel
theorem dX12_frosts_111 : decode cX12_frosts 111 = .ok (.ldc2_w 294, 3) := by decide +kernel
theorem dX12_frosts_114 : decode cX12_frosts 114 = .ok (.ldiv, 1) := by decide +kernel
theorem dX12_frosts_115 : decode cX12_frosts 115 = .ok (.lstore 7, 2) := by decide +kernel
theorem dX12_frosts_117 : decode cX12_frosts 117 = .ok (.iinc 9 (-1), 3) := by decide +kernel
theorem dX12_frosts_120 : decode cX12_frosts 120 = .ok (.goto (-39), 3) := by decide +kernel
theorem dX12_frosts_24 : decode cX12_frosts 24 = .ok (.iload 7, 2) := by decide +kernel
theorem dX12_frosts_26 : decode cX12_frosts 26 = .ok (.bipush 10, 2) := by decide +kernel
theorem dX12_frosts_28 : decode cX12_frosts 28 = .ok (.if_icmp .ge 17, 3) := by decide +kernel
theorem dX12_frosts_31 : decode cX12_frosts 31 = .ok (.lload 5, 2) := by decide +kernel
theorem dX12_frosts_33 : decode cX12_frosts 33 = .ok (.ldc2_w 294, 3) := by decide +kernel
theorem dX12_frosts_36 : decode cX12_frosts 36 = .ok (.lmul, 1) := by decide +kernel
theorem dX12_frosts_37 : decode cX12_frosts 37 = .ok (.lstore 5, 2) := by decide +kernel
theorem dX12_frosts_39 : decode cX12_frosts 39 = .ok (.iinc 7 1, 3) := by decide +kernel
theorem dX12_frosts_42 : decode cX12_frosts 42 = .ok (.goto (-25), 3) := by decide +kernel
theorem dX12_frosts_9 : decode cX12_frosts 9 = .ok (.iconst (-1), 1) := by decide +kernel
theorem dX12_frosts_10 : decode cX12_frosts 10 = .ok (.ireturn, 1) := by decide +kernel
set_option maxRecDepth 100000 in
set_option maxHeartbeats 4000000 in
theorem c_X12_frosts {l : Launch} {n0 : Nat} {D : va_G} {cA : Nat → ClassId} {M : gM} (a d g : Int) (r_a : -2147483648 ≤ a ∧ a ≤ 2147483647) (r_d : -9223372036854775808 ≤ d ∧ d ≤ 9223372036854775807) (r_g : -2147483648 ≤ g ∧ g ≤ 2147483647) {sz : Nat} (hsz : 206 ≤ sz) (f_190_1 : M 190 1 = 192) : Met l yX12_frosts (gWsOf yX12_frosts cX12_frosts 10 (Option.some Jvm.ClassFile.FieldType.int)) { frames := 1, cells := 0, slots := 0, locals := 22 } (gPc n0 D cA [gA n0 190, gJ a, gV d, gJ g] M sz) (gQi n0 D cA sz (fun z M1 => ((¬(0 ≤ a ∧ a ≤ 2) → z = -1) ∧ (0 ≤ a → a ≤ 2 → ¬(1 ≤ g ∧ g ≤ 10) → z = -2) ∧ (0 ≤ a → a ≤ 2 → 1 ≤ g → g ≤ 10 → ¬(0 ≤ d ∧ d < gP10 g) → z = -2) ∧ (0 ≤ a → a ≤ 2 → 1 ≤ g → g ≤ 10 → 0 ≤ d → d < gP10 g → z = g)) ∧ ∀ a : Int, a ≠ 191 → M1 a = M a)) 0 0 (fun q => n0 ≤ q) := by
  refine gMet_of [gA n0 190, gJ a, gV d, gJ g] (by decide) (Nat.le_of_ble_eq_true rfl) ?_
  intro p e s m args below meth cd X hr hm
  have X : gCx p s m args meth cd n0 D cA "ParishUnionModel" cX12_frosts 10 := X
  show G p l e ({ frames := 1, cells := 0, slots := 0, locals := 22 } : Room) s m args below meth cd n0 D cA 10 (MQ below (gQi n0 D cA sz (fun z M1 => ((¬(0 ≤ a ∧ a ≤ 2) → z = -1) ∧ (0 ≤ a → a ≤ 2 → ¬(1 ≤ g ∧ g ≤ 10) → z = -2) ∧ (0 ≤ a → a ≤ 2 → 1 ≤ g → g ≤ 10 → ¬(0 ≤ d ∧ d < gP10 g) → z = -2) ∧ (0 ≤ a → a ≤ 2 → 1 ≤ g → g ≤ 10 → 0 ≤ d → d < gP10 g → z = g)) ∧ ∀ a : Int, a ≠ 191 → M1 a = M a)) args s 0 0 (fun q => n0 ≤ q)) 0 0 M sz 0 [(0, gA n0 190), (1, gJ a), (2, gV d), (4, gJ g)] []
  refine g_iload_n (n := 1) X 1 dX12_frosts_0 rfl rfl rfl ?_
  refine g_iconst (n := 2) X dX12_frosts_1 rfl ?_
  refine g_iconst (n := 3) X dX12_frosts_2 rfl ?_
  refine g_callSi (n := 6) (As := [gJ a, gJ 0, gJ 2]) (rest := []) (cs1 := 0) (ss1 := 0) X (c_X12_in a 0 2 (by omega) (by omega) (by omega) (by omega)) okX12_in kw_6_106 kw_6_107 ⟨rfl, rfl⟩ ⟨Nat.le_of_ble_eq_true rfl, Nat.le_of_ble_eq_true rfl⟩ rfl rfl (Nat.le_of_ble_eq_true rfl) ⟨Nat.le_of_ble_eq_true rfl, Nat.le_of_ble_eq_true rfl⟩ rfl rfl dX12_frosts_3 rfl (fun z1 M2 P3 => ?_)
  obtain ⟨rfl, P3⟩ := P3
  refine g_if_ne (n := 9) (tgt := 11) X dX12_frosts_6 (by decide) (by omega) rfl (fun c4 => ?_) (fun c4 => ?_)
  · refine g_lconst (n := 12) (z := 1) X dX12_frosts_11 (by decide +kernel) rfl ?_
    refine g_lstore (n := 14) (L' := [(5, gV 1), (0, gA n0 190), (1, gJ a), (2, gV d), (4, gJ g)]) X dX12_frosts_12 (by decide) rfl rfl ?_
    refine g_iconst (n := 15) X dX12_frosts_14 rfl ?_
    refine g_istore (n := 17) (L' := [(7, gJ 0), (5, gV 1), (0, gA n0 190), (1, gJ a), (2, gV d), (4, gJ g)]) X dX12_frosts_15 (by decide) rfl rfl ?_
    have loop5 : ∀ (N7 : Nat) (bd j : Int), (1 ≤ bd ∧ bd ≤ 10000000000) → (bd = gP10 j) → (0 ≤ j ∧ j ≤ 10 ∧ (j ≤ g ∨ j = 0)) → (10 - j).toNat < N7 → G p l e ({ frames := 1, cells := 0, slots := 0, locals := 22 } : Room) s m args below meth cd n0 D cA 10 (MQ below (gQi n0 D cA sz (fun z M1 => ((¬(0 ≤ a ∧ a ≤ 2) → z = -1) ∧ (0 ≤ a → a ≤ 2 → ¬(1 ≤ g ∧ g ≤ 10) → z = -2) ∧ (0 ≤ a → a ≤ 2 → 1 ≤ g → g ≤ 10 → ¬(0 ≤ d ∧ d < gP10 g) → z = -2) ∧ (0 ≤ a → a ≤ 2 → 1 ≤ g → g ≤ 10 → 0 ≤ d → d < gP10 g → z = g)) ∧ ∀ a : Int, a ≠ 191 → M1 a = M a)) args s 0 0 (fun q => n0 ≤ q)) 0 0 M sz 17 [(0, gA n0 190), (1, gJ a), (2, gV d), (4, gJ g), (5, gV bd), (7, gJ j)] [] := by
      intro N7; induction N7 with
      | zero => intro bd j  ib ie ij hm8; exfalso; omega
      | succ N7 ih6 =>
        intro bd j  ib ie ij hm8
        refine g_iload (n := 19) X 5 dX12_frosts_17 rfl rfl ?_
        refine g_iload (n := 21) X 3 dX12_frosts_19 rfl rfl ?_
        refine g_icmp_ge (n := 24) (tgt := 45) X dX12_frosts_21 (by decide) (by omega) (by omega) rfl (fun c10 => ?_) (fun c10 => ?_)
        · have hjg : j = g → gP10 j = gP10 g := fun h => by rw [h]
          refine g_iload (n := 47) X 3 dX12_frosts_45 rfl rfl ?_
          refine g_iconst (n := 48) X dX12_frosts_47 rfl ?_
          refine g_bipush (n := 50) X dX12_frosts_48 (by decide +kernel) rfl ?_
          refine g_callSi (n := 53) (As := [gJ g, gJ 1, gJ 10]) (rest := []) (cs1 := 0) (ss1 := 0) X (c_X12_in g 1 10 (by omega) (by omega) (by omega) (by omega)) okX12_in kw_6_106 kw_6_107 ⟨rfl, rfl⟩ ⟨Nat.le_of_ble_eq_true rfl, Nat.le_of_ble_eq_true rfl⟩ rfl rfl (Nat.le_of_ble_eq_true rfl) ⟨Nat.le_of_ble_eq_true rfl, Nat.le_of_ble_eq_true rfl⟩ rfl rfl dX12_frosts_50 rfl (fun z11 M12 P13 => ?_)
          obtain ⟨rfl, P13⟩ := P13
          refine g_if_eq (n := 56) (tgt := 69) X dX12_frosts_53 (by decide) (by omega) rfl (fun c14 => ?_) (fun c14 => ?_)
          · refine g_bipush (n := 71) X dX12_frosts_69 (by decide +kernel) rfl ?_
            exact g_ireturn X hr dX12_frosts_71 (by exact ⟨by omega, fun a h0 => rfl⟩)
          · refine g_lload_n (n := 57) X 2 dX12_frosts_56 rfl rfl rfl ?_
            refine g_lconst (n := 58) (z := 0) X dX12_frosts_57 (by decide +kernel) rfl ?_
            refine g_lcmp (n := 59) X dX12_frosts_58 (by omega) (by omega) rfl (fun q15 xq15 => ?_)
            refine g_if_lt (n := 62) (tgt := 69) X dX12_frosts_59 (by decide) (by omega) rfl (fun c16 => ?_) (fun c16 => ?_)
            · refine g_bipush (n := 71) X dX12_frosts_69 (by decide +kernel) rfl ?_
              exact g_ireturn X hr dX12_frosts_71 (by exact ⟨by omega, fun a h0 => rfl⟩)
            · refine g_lload_n (n := 63) X 2 dX12_frosts_62 rfl rfl rfl ?_
              refine g_lload (n := 65) X 4 dX12_frosts_63 rfl rfl ?_
              refine g_lcmp (n := 66) X dX12_frosts_65 (by omega) (by omega) rfl (fun q17 xq17 => ?_)
              refine g_if_lt (n := 69) (tgt := 72) X dX12_frosts_66 (by decide) (by omega) rfl (fun c18 => ?_) (fun c18 => ?_)
              · refine g_lload_n (n := 73) X 2 dX12_frosts_72 rfl rfl rfl ?_
                refine g_lstore (n := 75) (L' := [(7, gV d), (0, gA n0 190), (1, gJ a), (2, gV d), (4, gJ g), (5, gV bd)]) X dX12_frosts_73 (by decide) rfl rfl ?_
                refine g_iload (n := 77) X 4 dX12_frosts_75 rfl rfl ?_
                refine g_iconst (n := 78) X dX12_frosts_77 rfl ?_
                refine g_isub (n := 79) (z := g - 1) X dX12_frosts_78 rfl rfl ?_
                refine g_istore (n := 81) (L' := [(9, gJ (g - 1)), (7, gV d), (0, gA n0 190), (1, gJ a), (2, gV d), (4, gJ g), (5, gV bd)]) X dX12_frosts_79 (by decide) rfl rfl ?_
                have loop19 : ∀ (N21 : Nat) (lf k : Int) (M23 : gM), (∀ a : Int, a ≠ 191 → M23 a = M a) → (-1 ≤ k ∧ k ≤ 9) → (k + 1).toNat < N21 → G p l e ({ frames := 1, cells := 0, slots := 0, locals := 22 } : Room) s m args below meth cd n0 D cA 10 (MQ below (gQi n0 D cA sz (fun z M1 => ((¬(0 ≤ a ∧ a ≤ 2) → z = -1) ∧ (0 ≤ a → a ≤ 2 → ¬(1 ≤ g ∧ g ≤ 10) → z = -2) ∧ (0 ≤ a → a ≤ 2 → 1 ≤ g → g ≤ 10 → ¬(0 ≤ d ∧ d < gP10 g) → z = -2) ∧ (0 ≤ a → a ≤ 2 → 1 ≤ g → g ≤ 10 → 0 ≤ d → d < gP10 g → z = g)) ∧ ∀ a : Int, a ≠ 191 → M1 a = M a)) args s 0 0 (fun q => n0 ≤ q)) 0 0 M23 sz 81 [(0, gA n0 190), (1, gJ a), (2, gV d), (4, gJ g), (7, gV lf), (9, gJ k)] [] := by
                  intro N21; induction N21 with
                  | zero => intro lf k M23 F24 ik hm22; exfalso; omega
                  | succ N21 ih20 =>
                    intro lf k M23 F24 ik hm22
                    refine g_iload (n := 83) X 5 dX12_frosts_81 rfl rfl ?_
                    refine g_if_lt (n := 86) (tgt := 123) X dX12_frosts_83 (by decide) (by omega) rfl (fun c25 => ?_) (fun c25 => ?_)
                    · refine g_aload_n (n := 124) X 0 dX12_frosts_123 rfl rfl rfl ?_
                      refine gg_12_1 (n := 127) (z := 191) X (by omega) (by omega) lay_190 kw_6_27 dX12_frosts_124 rfl ((congrFun (F24 190 (by omega)) _).trans f_190_1) (by omega) ?_
                      refine g_sipush (n := 130) X dX12_frosts_127 (by decide +kernel) rfl ?_
                      refine g_iload_n (n := 131) X 1 dX12_frosts_130 rfl rfl rfl ?_
                      refine g_iadd (n := 132) (z := 2580 + a) X dX12_frosts_131 rfl rfl ?_
                      refine g_iload (n := 134) X 3 dX12_frosts_132 rfl rfl ?_
                      refine g_iast (n := 135) X (by omega) (by omega) lay_191 (by omega) (by omega) (by omega) dX12_frosts_134 rfl ?_
                      refine G.nm (fun M26 e27 => ?_)
                      refine g_iload (n := 137) X 3 dX12_frosts_135 rfl rfl ?_
                      exact g_ireturn X hr dX12_frosts_137 (by exact ⟨by omega, fun a h0 => ((congrFun e27 a).trans ((gset_off a (by omega)).trans ((F24 a (by omega)).trans rfl)))⟩)
                    · refine g_aload_n (n := 87) X 0 dX12_frosts_86 rfl rfl rfl ?_
                      refine gg_12_1 (n := 90) (z := 191) X (by omega) (by omega) lay_190 kw_6_27 dX12_frosts_87 rfl ((congrFun (F24 190 (by omega)) _).trans f_190_1) (by omega) ?_
                      refine g_sipush (n := 93) X dX12_frosts_90 (by decide +kernel) rfl ?_
                      refine g_bipush (n := 95) X dX12_frosts_93 (by decide +kernel) rfl ?_
                      refine g_iload_n (n := 96) X 1 dX12_frosts_95 rfl rfl rfl ?_
                      refine g_imul (n := 97) (z := 10 * a) X dX12_frosts_96 rfl rfl ?_
                      refine g_iadd (n := 98) (z := 2584 + (10 * a)) X dX12_frosts_97 rfl rfl ?_
                      refine g_iload (n := 100) X 5 dX12_frosts_98 rfl rfl ?_
                      refine g_iadd (n := 101) (z := (2584 + (10 * a)) + k) X dX12_frosts_100 rfl rfl ?_
                      refine g_lload (n := 103) X 4 dX12_frosts_101 rfl rfl ?_
                      refine g_ldc2 (n := 106) (z := 10) X dX12_frosts_103 kw_8_0 (by decide +kernel) rfl ?_
                      refine g_lremA (n := 107) X dX12_frosts_106 (by decide +kernel) rfl (fun q28 rq28 xq28 => ?_)
                      refine g_l2iA (n := 108) X dX12_frosts_107 rfl (fun q29 rq29 xq29 => ?_)
                      refine g_iast (n := 109) X (by omega) (by omega) lay_191 (by omega) (by omega) (by omega) dX12_frosts_108 rfl ?_
                      refine G.nm (fun M30 e31 => ?_)
                      refine g_lload (n := 111) X 4 dX12_frosts_109 rfl rfl ?_
                      refine g_ldc2 (n := 114) (z := 10) X dX12_frosts_111 kw_8_0 (by decide +kernel) rfl ?_
                      refine g_ldivA (n := 115) X dX12_frosts_114 (by decide +kernel) rfl (fun q32 rq32 xq32 => ?_)
                      refine g_lstore (n := 117) (L' := [(7, gV q32), (0, gA n0 190), (1, gJ a), (2, gV d), (4, gJ g), (9, gJ k)]) X dX12_frosts_115 (by decide) rfl rfl ?_
                      refine g_iinc (n := 120) (w := k + (-1)) (L' := [(9, gJ (k + (-1))), (7, gV q32), (0, gA n0 190), (1, gJ a), (2, gV d), (4, gJ g)]) X 5 dX12_frosts_117 rfl rfl (by decide) rfl rfl ?_
                      refine g_goto (tgt := 81) X dX12_frosts_120 (by decide) ?_
                      refine G.sub (L' := [(0, gA n0 190), (1, gJ a), (2, gV d), (4, gJ g), (7, gV q32), (9, gJ (k + (-1)))]) [2, 3, 4, 5, 1, 0] rfl ?_
                      exact ih20 q32 (k + (-1)) M30 (fun a h0 => ((congrFun e31 a).trans ((gset_off a (by omega)).trans ((F24 a (by omega)).trans rfl)))) (by omega) (by omega)
                refine G.sub (L' := [(0, gA n0 190), (1, gJ a), (2, gV d), (4, gJ g), (7, gV d), (9, gJ (g - 1))]) [2, 3, 4, 5, 1, 0] rfl ?_
                exact loop19 _ d (g - 1) M (fun a _ => rfl) (by omega) (Nat.lt_succ_self _)
              · refine g_bipush (n := 71) X dX12_frosts_69 (by decide +kernel) rfl ?_
                exact g_ireturn X hr dX12_frosts_71 (by exact ⟨by omega, fun a h0 => rfl⟩)
        · refine g_iload (n := 26) X 5 dX12_frosts_24 rfl rfl ?_
          refine g_bipush (n := 28) X dX12_frosts_26 (by decide +kernel) rfl ?_
          refine g_icmp_ge (n := 31) (tgt := 45) X dX12_frosts_28 (by decide) (by omega) (by omega) rfl (fun c33 => ?_) (fun c33 => ?_)
          · have hjg : j = g → gP10 j = gP10 g := fun h => by rw [h]
            refine g_iload (n := 47) X 3 dX12_frosts_45 rfl rfl ?_
            refine g_iconst (n := 48) X dX12_frosts_47 rfl ?_
            refine g_bipush (n := 50) X dX12_frosts_48 (by decide +kernel) rfl ?_
            refine g_callSi (n := 53) (As := [gJ g, gJ 1, gJ 10]) (rest := []) (cs1 := 0) (ss1 := 0) X (c_X12_in g 1 10 (by omega) (by omega) (by omega) (by omega)) okX12_in kw_6_106 kw_6_107 ⟨rfl, rfl⟩ ⟨Nat.le_of_ble_eq_true rfl, Nat.le_of_ble_eq_true rfl⟩ rfl rfl (Nat.le_of_ble_eq_true rfl) ⟨Nat.le_of_ble_eq_true rfl, Nat.le_of_ble_eq_true rfl⟩ rfl rfl dX12_frosts_50 rfl (fun z34 M35 P36 => ?_)
            obtain ⟨rfl, P36⟩ := P36
            refine g_if_eq (n := 56) (tgt := 69) X dX12_frosts_53 (by decide) (by omega) rfl (fun c37 => ?_) (fun c37 => ?_)
            · refine g_bipush (n := 71) X dX12_frosts_69 (by decide +kernel) rfl ?_
              exact g_ireturn X hr dX12_frosts_71 (by exact ⟨by omega, fun a h0 => rfl⟩)
            · refine g_lload_n (n := 57) X 2 dX12_frosts_56 rfl rfl rfl ?_
              refine g_lconst (n := 58) (z := 0) X dX12_frosts_57 (by decide +kernel) rfl ?_
              refine g_lcmp (n := 59) X dX12_frosts_58 (by omega) (by omega) rfl (fun q38 xq38 => ?_)
              refine g_if_lt (n := 62) (tgt := 69) X dX12_frosts_59 (by decide) (by omega) rfl (fun c39 => ?_) (fun c39 => ?_)
              · refine g_bipush (n := 71) X dX12_frosts_69 (by decide +kernel) rfl ?_
                exact g_ireturn X hr dX12_frosts_71 (by exact ⟨by omega, fun a h0 => rfl⟩)
              · refine g_lload_n (n := 63) X 2 dX12_frosts_62 rfl rfl rfl ?_
                refine g_lload (n := 65) X 4 dX12_frosts_63 rfl rfl ?_
                refine g_lcmp (n := 66) X dX12_frosts_65 (by omega) (by omega) rfl (fun q40 xq40 => ?_)
                refine g_if_lt (n := 69) (tgt := 72) X dX12_frosts_66 (by decide) (by omega) rfl (fun c41 => ?_) (fun c41 => ?_)
                · refine g_lload_n (n := 73) X 2 dX12_frosts_72 rfl rfl rfl ?_
                  refine g_lstore (n := 75) (L' := [(7, gV d), (0, gA n0 190), (1, gJ a), (2, gV d), (4, gJ g), (5, gV bd)]) X dX12_frosts_73 (by decide) rfl rfl ?_
                  refine g_iload (n := 77) X 4 dX12_frosts_75 rfl rfl ?_
                  refine g_iconst (n := 78) X dX12_frosts_77 rfl ?_
                  refine g_isub (n := 79) (z := g - 1) X dX12_frosts_78 rfl rfl ?_
                  refine g_istore (n := 81) (L' := [(9, gJ (g - 1)), (7, gV d), (0, gA n0 190), (1, gJ a), (2, gV d), (4, gJ g), (5, gV bd)]) X dX12_frosts_79 (by decide) rfl rfl ?_
                  have loop42 : ∀ (N44 : Nat) (lf k : Int) (M46 : gM), (∀ a : Int, a ≠ 191 → M46 a = M a) → (-1 ≤ k ∧ k ≤ 9) → (k + 1).toNat < N44 → G p l e ({ frames := 1, cells := 0, slots := 0, locals := 22 } : Room) s m args below meth cd n0 D cA 10 (MQ below (gQi n0 D cA sz (fun z M1 => ((¬(0 ≤ a ∧ a ≤ 2) → z = -1) ∧ (0 ≤ a → a ≤ 2 → ¬(1 ≤ g ∧ g ≤ 10) → z = -2) ∧ (0 ≤ a → a ≤ 2 → 1 ≤ g → g ≤ 10 → ¬(0 ≤ d ∧ d < gP10 g) → z = -2) ∧ (0 ≤ a → a ≤ 2 → 1 ≤ g → g ≤ 10 → 0 ≤ d → d < gP10 g → z = g)) ∧ ∀ a : Int, a ≠ 191 → M1 a = M a)) args s 0 0 (fun q => n0 ≤ q)) 0 0 M46 sz 81 [(0, gA n0 190), (1, gJ a), (2, gV d), (4, gJ g), (7, gV lf), (9, gJ k)] [] := by
                    intro N44; induction N44 with
                    | zero => intro lf k M46 F47 ik hm45; exfalso; omega
                    | succ N44 ih43 =>
                      intro lf k M46 F47 ik hm45
                      refine g_iload (n := 83) X 5 dX12_frosts_81 rfl rfl ?_
                      refine g_if_lt (n := 86) (tgt := 123) X dX12_frosts_83 (by decide) (by omega) rfl (fun c48 => ?_) (fun c48 => ?_)
                      · refine g_aload_n (n := 124) X 0 dX12_frosts_123 rfl rfl rfl ?_
                        refine gg_12_1 (n := 127) (z := 191) X (by omega) (by omega) lay_190 kw_6_27 dX12_frosts_124 rfl ((congrFun (F47 190 (by omega)) _).trans f_190_1) (by omega) ?_
                        refine g_sipush (n := 130) X dX12_frosts_127 (by decide +kernel) rfl ?_
                        refine g_iload_n (n := 131) X 1 dX12_frosts_130 rfl rfl rfl ?_
                        refine g_iadd (n := 132) (z := 2580 + a) X dX12_frosts_131 rfl rfl ?_
                        refine g_iload (n := 134) X 3 dX12_frosts_132 rfl rfl ?_
                        refine g_iast (n := 135) X (by omega) (by omega) lay_191 (by omega) (by omega) (by omega) dX12_frosts_134 rfl ?_
                        refine G.nm (fun M49 e50 => ?_)
                        refine g_iload (n := 137) X 3 dX12_frosts_135 rfl rfl ?_
                        exact g_ireturn X hr dX12_frosts_137 (by exact ⟨by omega, fun a h0 => ((congrFun e50 a).trans ((gset_off a (by omega)).trans ((F47 a (by omega)).trans rfl)))⟩)
                      · refine g_aload_n (n := 87) X 0 dX12_frosts_86 rfl rfl rfl ?_
                        refine gg_12_1 (n := 90) (z := 191) X (by omega) (by omega) lay_190 kw_6_27 dX12_frosts_87 rfl ((congrFun (F47 190 (by omega)) _).trans f_190_1) (by omega) ?_
                        refine g_sipush (n := 93) X dX12_frosts_90 (by decide +kernel) rfl ?_
                        refine g_bipush (n := 95) X dX12_frosts_93 (by decide +kernel) rfl ?_
                        refine g_iload_n (n := 96) X 1 dX12_frosts_95 rfl rfl rfl ?_
                        refine g_imul (n := 97) (z := 10 * a) X dX12_frosts_96 rfl rfl ?_
                        refine g_iadd (n := 98) (z := 2584 + (10 * a)) X dX12_frosts_97 rfl rfl ?_
                        refine g_iload (n := 100) X 5 dX12_frosts_98 rfl rfl ?_
                        refine g_iadd (n := 101) (z := (2584 + (10 * a)) + k) X dX12_frosts_100 rfl rfl ?_
                        refine g_lload (n := 103) X 4 dX12_frosts_101 rfl rfl ?_
                        refine g_ldc2 (n := 106) (z := 10) X dX12_frosts_103 kw_8_0 (by decide +kernel) rfl ?_
                        refine g_lremA (n := 107) X dX12_frosts_106 (by decide +kernel) rfl (fun q51 rq51 xq51 => ?_)
                        refine g_l2iA (n := 108) X dX12_frosts_107 rfl (fun q52 rq52 xq52 => ?_)
                        refine g_iast (n := 109) X (by omega) (by omega) lay_191 (by omega) (by omega) (by omega) dX12_frosts_108 rfl ?_
                        refine G.nm (fun M53 e54 => ?_)
                        refine g_lload (n := 111) X 4 dX12_frosts_109 rfl rfl ?_
                        refine g_ldc2 (n := 114) (z := 10) X dX12_frosts_111 kw_8_0 (by decide +kernel) rfl ?_
                        refine g_ldivA (n := 115) X dX12_frosts_114 (by decide +kernel) rfl (fun q55 rq55 xq55 => ?_)
                        refine g_lstore (n := 117) (L' := [(7, gV q55), (0, gA n0 190), (1, gJ a), (2, gV d), (4, gJ g), (9, gJ k)]) X dX12_frosts_115 (by decide) rfl rfl ?_
                        refine g_iinc (n := 120) (w := k + (-1)) (L' := [(9, gJ (k + (-1))), (7, gV q55), (0, gA n0 190), (1, gJ a), (2, gV d), (4, gJ g)]) X 5 dX12_frosts_117 rfl rfl (by decide) rfl rfl ?_
                        refine g_goto (tgt := 81) X dX12_frosts_120 (by decide) ?_
                        refine G.sub (L' := [(0, gA n0 190), (1, gJ a), (2, gV d), (4, gJ g), (7, gV q55), (9, gJ (k + (-1)))]) [2, 3, 4, 5, 1, 0] rfl ?_
                        exact ih43 q55 (k + (-1)) M53 (fun a h0 => ((congrFun e54 a).trans ((gset_off a (by omega)).trans ((F47 a (by omega)).trans rfl)))) (by omega) (by omega)
                  refine G.sub (L' := [(0, gA n0 190), (1, gJ a), (2, gV d), (4, gJ g), (7, gV d), (9, gJ (g - 1))]) [2, 3, 4, 5, 1, 0] rfl ?_
                  exact loop42 _ d (g - 1) M (fun a _ => rfl) (by omega) (Nat.lt_succ_self _)
                · refine g_bipush (n := 71) X dX12_frosts_69 (by decide +kernel) rfl ?_
                  exact g_ireturn X hr dX12_frosts_71 (by exact ⟨by omega, fun a h0 => rfl⟩)
          · refine g_lload (n := 33) X 4 dX12_frosts_31 rfl rfl ?_
            refine g_ldc2 (n := 36) (z := 10) X dX12_frosts_33 kw_8_0 (by decide +kernel) rfl ?_
            refine g_lmul (n := 37) (z := bd * 10) X dX12_frosts_36 rfl rfl ?_
            refine g_lstore (n := 39) (L' := [(5, gV (bd * 10)), (0, gA n0 190), (1, gJ a), (2, gV d), (4, gJ g), (7, gJ j)]) X dX12_frosts_37 (by decide) rfl rfl ?_
            refine g_iinc (n := 42) (w := j + 1) (L' := [(7, gJ (j + 1)), (5, gV (bd * 10)), (0, gA n0 190), (1, gJ a), (2, gV d), (4, gJ g)]) X 5 dX12_frosts_39 rfl rfl (by decide) rfl rfl ?_
            refine g_goto (tgt := 17) X dX12_frosts_42 (by decide) ?_
            refine G.sub (L' := [(0, gA n0 190), (1, gJ a), (2, gV d), (4, gJ g), (5, gV (bd * 10)), (7, gJ (j + 1))]) [2, 3, 4, 5, 1, 0] rfl ?_
            exact ih6 (bd * 10) (j + 1) (by have hb := gP10_s (i := j) (by omega) (by omega); have hc := gP10_b (i := j + 1); omega) (by rw [gP10_s (i := j) (by omega) (by omega), ie]) (by omega) (by omega)
    refine G.sub (L' := [(0, gA n0 190), (1, gJ a), (2, gV d), (4, gJ g), (5, gV 1), (7, gJ 0)]) [2, 3, 4, 5, 1, 0] rfl ?_
    exact loop5 _ 1 0 (by omega) (by decide) (by omega) (Nat.lt_succ_self _)
  · refine g_iconst (n := 10) X dX12_frosts_9 rfl ?_
    exact g_ireturn X hr dX12_frosts_10 (by exact ⟨by omega, fun a h0 => rfl⟩)
