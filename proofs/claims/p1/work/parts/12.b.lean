set_option maxRecDepth 100000 in
set_option maxHeartbeats 4000000 in
theorem c_X3_distanceG {l : Launch} {n0 : Nat} {D : va_G} {cA : Nat → ClassId} {M : gM} (a b : Int) (r_a : -2147483648 ≤ a ∧ a ≤ 2147483647) (r_b : -2147483648 ≤ b ∧ b ≤ 2147483647) {sz : Nat} (hsz : 206 ≤ sz) (f_2_1 : M 2 1 = 5) (hab : 0 ≤ a ∧ a ≤ 5 ∧ 0 ≤ b ∧ b ≤ 5) : Met l yX3_distance (gWsOf yX3_distance cX3_distance 3 (Option.some Jvm.ClassFile.FieldType.int)) { frames := 0, cells := 0, slots := 0, locals := 0 } (gPc n0 D cA [gA n0 2, gJ a, gJ b] M sz) (gQi n0 D cA sz (fun z M1 => M = M1 ∧ (z = M 4 (a * 6 + b)))) 0 0 (fun q => n0 ≤ q) := by
  refine gMet_of [gA n0 2, gJ a, gJ b] (by decide) (Nat.le_of_ble_eq_true rfl) ?_
  intro p e s m args below meth cd X hr hm
  have X : gCx p s m args meth cd n0 D cA "ParishUnion$Land" cX3_distance 3 := X
  show G p l e ({ frames := 0, cells := 0, slots := 0, locals := 0 } : Room) s m args below meth cd n0 D cA 3 (MQ below (gQi n0 D cA sz (fun z M1 => M = M1 ∧ (z = M 4 (a * 6 + b)))) args s 0 0 (fun q => n0 ≤ q)) 0 0 M sz 0 [(0, gA n0 2), (1, gJ a), (2, gJ b)] []
  refine g_aload_n (n := 1) X 0 dX3_distance_0 rfl rfl rfl ?_
  refine gg_3_1 (n := 4) (z := 4) X (by omega) (by omega) lay_2 kw_1_43 dX3_distance_1 rfl f_2_1 (by omega) ?_
  refine g_iload_n (n := 5) X 1 dX3_distance_4 rfl rfl rfl ?_
  refine g_bipush (n := 7) X dX3_distance_5 (by decide +kernel) rfl ?_
  refine g_imul (n := 8) (z := a * 6) X dX3_distance_7 rfl rfl ?_
  refine g_iload_n (n := 9) X 2 dX3_distance_8 rfl rfl rfl ?_
  refine g_iadd (n := 10) (z := (a * 6) + b) X dX3_distance_9 rfl rfl ?_
  refine g_iald (n := 11) X (by omega) (by omega) lay_4 (by omega) (by omega) (by omega) dX3_distance_10 rfl ?_
  exact g_ireturn X hr dX3_distance_11 (by exact ⟨rfl, by rfl⟩)
theorem dX3_layRoad_0 : decode cX3_layRoad 0 = .ok (.iconst 0, 1) := by decide +kernel
theorem dX3_layRoad_1 : decode cX3_layRoad 1 = .ok (.istore 4, 2) := by decide +kernel
theorem dX3_layRoad_3 : decode cX3_layRoad 3 = .ok (.iconst 0, 1) := by decide +kernel
theorem dX3_layRoad_4 : decode cX3_layRoad 4 = .ok (.istore 5, 2) := by decide +kernel
theorem dX3_layRoad_6 : decode cX3_layRoad 6 = .ok (.iload 5, 2) := by decide +kernel
theorem dX3_layRoad_8 : decode cX3_layRoad 8 = .ok (.bipush 6, 2) := by decide +kernel
theorem dX3_layRoad_10 : decode cX3_layRoad 10 = .ok (.if_icmp .ge 95, 3) := by decide +kernel
theorem dX3_layRoad_105 : decode cX3_layRoad 105 = .ok (.iload 4, 2) := by decide +kernel
theorem dX3_layRoad_107 : decode cX3_layRoad 107 = .ok (.ireturn, 1) := by decide +kernel
theorem dX3_layRoad_13 : decode cX3_layRoad 13 = .ok (.iconst 0, 1) := by decide +kernel
theorem dX3_layRoad_14 : decode cX3_layRoad 14 = .ok (.istore 6, 2) := by decide +kernel
theorem dX3_layRoad_16 : decode cX3_layRoad 16 = .ok (.iload 6, 2) := by decide +kernel
theorem dX3_layRoad_18 : decode cX3_layRoad 18 = .ok (.bipush 6, 2) := by decide +kernel
theorem dX3_layRoad_20 : decode cX3_layRoad 20 = .ok (.if_icmp .ge 79, 3) := by decide +kernel
theorem dX3_layRoad_99 : decode cX3_layRoad 99 = .ok (.iinc 5 1, 3) := by decide +kernel
theorem dX3_layRoad_102 : decode cX3_layRoad 102 = .ok (.goto (-96), 3) := by decide +kernel
theorem dX3_layRoad_23 : decode cX3_layRoad 23 = .ok (.aload_n 0, 1) := by decide +kernel
theorem dX3_layRoad_24 : decode cX3_layRoad 24 = .ok (.iload 5, 2) := by decide +kernel
theorem dX3_layRoad_26 : decode cX3_layRoad 26 = .ok (.iload_n 1, 1) := by decide +kernel
theorem dX3_layRoad_27 : decode cX3_layRoad 27 = .ok (.invokevirtual 24, 3) := by decide +kernel
theorem kw_3_40 : (Jvm.Cond.methodLink "ParishUnion$Land" (24 : Nat) ({ cls := "ParishUnion$Land", name := "distance", desc := "(II)I" } : Jvm.MethodName)) ∈ gT := gT_of (tb_3 _ (List.mem_of_getElem? (i := 40) rfl)) rfl
theorem dX3_layRoad_30 : decode cX3_layRoad 30 = .ok (.iload_n 3, 1) := by decide +kernel
theorem dX3_layRoad_31 : decode cX3_layRoad 31 = .ok (.iadd, 1) := by decide +kernel
theorem dX3_layRoad_32 : decode cX3_layRoad 32 = .ok (.aload_n 0, 1) := by decide +kernel
theorem dX3_layRoad_33 : decode cX3_layRoad 33 = .ok (.iload_n 2, 1) := by decide +kernel
theorem dX3_layRoad_34 : decode cX3_layRoad 34 = .ok (.iload 6, 2) := by decide +kernel
theorem dX3_layRoad_36 : decode cX3_layRoad 36 = .ok (.invokevirtual 24, 3) := by decide +kernel
theorem dX3_layRoad_39 : decode cX3_layRoad 39 = .ok (.iadd, 1) := by decide +kernel
theorem dX3_layRoad_40 : decode cX3_layRoad 40 = .ok (.aload_n 0, 1) := by decide +kernel
theorem dX3_layRoad_41 : decode cX3_layRoad 41 = .ok (.iload 5, 2) := by decide +kernel
theorem dX3_layRoad_43 : decode cX3_layRoad 43 = .ok (.iload_n 2, 1) := by decide +kernel
theorem dX3_layRoad_44 : decode cX3_layRoad 44 = .ok (.invokevirtual 24, 3) := by decide +kernel
theorem dX3_layRoad_47 : decode cX3_layRoad 47 = .ok (.iload_n 3, 1) := by decide +kernel
theorem dX3_layRoad_48 : decode cX3_layRoad 48 = .ok (.iadd, 1) := by decide +kernel
theorem dX3_layRoad_49 : decode cX3_layRoad 49 = .ok (.aload_n 0, 1) := by decide +kernel
theorem dX3_layRoad_50 : decode cX3_layRoad 50 = .ok (.iload_n 1, 1) := by decide +kernel
theorem dX3_layRoad_51 : decode cX3_layRoad 51 = .ok (.iload 6, 2) := by decide +kernel
theorem dX3_layRoad_53 : decode cX3_layRoad 53 = .ok (.invokevirtual 24, 3) := by decide +kernel
theorem dX3_layRoad_56 : decode cX3_layRoad 56 = .ok (.iadd, 1) := by decide +kernel
theorem dX3_layRoad_57 : decode cX3_layRoad 57 = .ok (.invokestatic 28, 3) := by decide +kernel
theorem kw_3_44 : (Jvm.Cond.methodLink "ParishUnion$Land" (28 : Nat) ({ cls := "java/lang/Math", name := "min", desc := "(II)I" } : Jvm.MethodName)) ∈ gT := gT_of (tb_3 _ (List.mem_of_getElem? (i := 44) rfl)) rfl
theorem dX3_layRoad_60 : decode cX3_layRoad 60 = .ok (.istore 7, 2) := by decide +kernel
theorem dX3_layRoad_62 : decode cX3_layRoad 62 = .ok (.iload 7, 2) := by decide +kernel
theorem dX3_layRoad_64 : decode cX3_layRoad 64 = .ok (.aload_n 0, 1) := by decide +kernel
theorem dX3_layRoad_65 : decode cX3_layRoad 65 = .ok (.iload 5, 2) := by decide +kernel
theorem dX3_layRoad_67 : decode cX3_layRoad 67 = .ok (.iload 6, 2) := by decide +kernel
theorem dX3_layRoad_69 : decode cX3_layRoad 69 = .ok (.invokevirtual 24, 3) := by decide +kernel
theorem dX3_layRoad_72 : decode cX3_layRoad 72 = .ok (.if_icmp .ge 21, 3) := by decide +kernel
theorem dX3_layRoad_93 : decode cX3_layRoad 93 = .ok (.iinc 6 1, 3) := by decide +kernel
theorem dX3_layRoad_96 : decode cX3_layRoad 96 = .ok (.goto (-80), 3) := by decide +kernel
theorem dX3_layRoad_75 : decode cX3_layRoad 75 = .ok (.aload_n 0, 1) := by decide +kernel
theorem dX3_layRoad_76 : decode cX3_layRoad 76 = .ok (.getfield 15, 3) := by decide +kernel
theorem dX3_layRoad_79 : decode cX3_layRoad 79 = .ok (.iload 5, 2) := by decide +kernel
theorem dX3_layRoad_81 : decode cX3_layRoad 81 = .ok (.bipush 6, 2) := by decide +kernel
theorem dX3_layRoad_83 : decode cX3_layRoad 83 = .ok (.imul, 1) := by decide +kernel
theorem dX3_layRoad_84 : decode cX3_layRoad 84 = .ok (.iload 6, 2) := by decide +kernel
theorem dX3_layRoad_86 : decode cX3_layRoad 86 = .ok (.iadd, 1) := by decide +kernel
theorem dX3_layRoad_87 : decode cX3_layRoad 87 = .ok (.iload 7, 2) := by decide +kernel
theorem dX3_layRoad_89 : decode cX3_layRoad 89 = .ok (.iastore, 1) := by decide +kernel
theorem dX3_layRoad_90 : decode cX3_layRoad 90 = .ok (.iconst 1, 1) := by decide +kernel
theorem dX3_layRoad_91 : decode cX3_layRoad 91 = .ok (.istore 4, 2) := by decide +kernel
set_option maxRecDepth 100000 in
set_option maxHeartbeats 4000000 in
theorem c_X3_layRoad {l : Launch} {n0 : Nat} {D : va_G} {cA : Nat → ClassId} {M : gM} (a b g : Int) (r_a : -2147483648 ≤ a ∧ a ≤ 2147483647) (r_b : -2147483648 ≤ b ∧ b ≤ 2147483647) (r_g : -2147483648 ≤ g ∧ g ≤ 2147483647) {sz : Nat} (hsz : 206 ≤ sz) (f_2_1 : M 2 1 = 5) (hab : 0 ≤ a ∧ a ≤ 5 ∧ 0 ≤ b ∧ b ≤ 5 ∧ ¬ a = b ∧ 1 ≤ g ∧ g ≤ 9) (way : ∀ i : Int, 0 ≤ i → i < 36 → (i % 7 = 0 → M 4 i = 0) ∧ (¬ i % 7 = 0 → M 4 i = 99)) : Met l yX3_layRoad (gWsOf yX3_layRoad cX3_layRoad 8 (Option.some Jvm.ClassFile.FieldType.boolean)) { frames := 4, cells := 0, slots := 0, locals := 120 } (gPc n0 D cA [gA n0 2, gJ a, gJ b, gJ g] M sz) (gQi n0 D cA sz (fun z M1 => (z = 1) ∧ ∀ a : Int, a ≠ 4 → M1 a = M a)) 0 0 (fun q => n0 ≤ q) := by
  refine gMet_of [gA n0 2, gJ a, gJ b, gJ g] (by decide) (Nat.le_of_ble_eq_true rfl) ?_
  intro p e s m args below meth cd X hr hm
  have X : gCx p s m args meth cd n0 D cA "ParishUnion$Land" cX3_layRoad 8 := X
  show G p l e ({ frames := 4, cells := 0, slots := 0, locals := 120 } : Room) s m args below meth cd n0 D cA 8 (MQ below (gQi n0 D cA sz (fun z M1 => (z = 1) ∧ ∀ a : Int, a ≠ 4 → M1 a = M a)) args s 0 0 (fun q => n0 ≤ q)) 0 0 M sz 0 [(0, gA n0 2), (1, gJ a), (2, gJ b), (3, gJ g)] []
  refine g_iconst (n := 1) X dX3_layRoad_0 rfl ?_
  refine g_istore (n := 3) (L' := [(4, gJ 0), (0, gA n0 2), (1, gJ a), (2, gJ b), (3, gJ g)]) X dX3_layRoad_1 (by decide) rfl rfl ?_
  refine g_iconst (n := 4) X dX3_layRoad_3 rfl ?_
  refine g_istore (n := 6) (L' := [(5, gJ 0), (4, gJ 0), (0, gA n0 2), (1, gJ a), (2, gJ b), (3, gJ g)]) X dX3_layRoad_4 (by decide) rfl rfl ?_
  have loop1 : ∀ (N3 : Nat) (ch fr : Int) (M5 : gM), (∀ a : Int, a ≠ 4 → M5 a = M a) → (∀ i : Int, 0 ≤ i → i < 36 → 0 ≤ M5 4 i ∧ M5 4 i ≤ 99) → (∀ i : Int, 0 ≤ i → i < 36 → i % 7 = 0 → M5 4 i = 0) → ((ch = 0 ∨ ch = 1) ∧ (a * 6 + b < fr * 6 → ch = 1) ∧ (fr * 6 ≤ a * 6 + b → M5 4 (a * 6 + b) = 99 ∨ ch = 1)) → (0 ≤ fr ∧ fr ≤ 6) → (6 - fr).toNat < N3 → G p l e ({ frames := 4, cells := 0, slots := 0, locals := 120 } : Room) s m args below meth cd n0 D cA 8 (MQ below (gQi n0 D cA sz (fun z M1 => (z = 1) ∧ ∀ a : Int, a ≠ 4 → M1 a = M a)) args s 0 0 (fun q => n0 ≤ q)) 0 0 M5 sz 6 [(0, gA n0 2), (1, gJ a), (2, gJ b), (3, gJ g), (4, gJ ch), (5, gJ fr)] [] := by
    intro N3; induction N3 with
    | zero => intro ch fr M5 F6 iw idg ich ifr hm4; exfalso; omega
    | succ N3 ih2 =>
      intro ch fr M5 F6 iw idg ich ifr hm4
      refine g_iload (n := 8) X 5 dX3_layRoad_6 rfl rfl ?_
      refine g_bipush (n := 10) X dX3_layRoad_8 (by decide +kernel) rfl ?_
      refine g_icmp_ge (n := 13) (tgt := 105) X dX3_layRoad_10 (by decide) (by omega) (by omega) rfl (fun c7 => ?_) (fun c7 => ?_)
      · refine g_iload (n := 107) X 4 dX3_layRoad_105 rfl rfl ?_
        exact g_zreturn X (by omega) hr dX3_layRoad_107 (by exact ⟨by omega, fun a h0 => ((F6 a (by omega)).trans rfl)⟩)
      · refine g_iconst (n := 14) X dX3_layRoad_13 rfl ?_
        refine g_istore (n := 16) (L' := [(6, gJ 0), (0, gA n0 2), (1, gJ a), (2, gJ b), (3, gJ g), (4, gJ ch), (5, gJ fr)]) X dX3_layRoad_14 (by decide) rfl rfl ?_
        have loop8 : ∀ (N10 : Nat) (ch to : Int) (M12 : gM), (∀ a : Int, a ≠ 4 → M12 a = M5 a) → (∀ i : Int, 0 ≤ i → i < 36 → 0 ≤ M12 4 i ∧ M12 4 i ≤ 99) → (∀ i : Int, 0 ≤ i → i < 36 → i % 7 = 0 → M12 4 i = 0) → ((ch = 0 ∨ ch = 1) ∧ (a * 6 + b < fr * 6 + to → ch = 1) ∧ (fr * 6 + to ≤ a * 6 + b → M12 4 (a * 6 + b) = 99 ∨ ch = 1)) → (0 ≤ to ∧ to ≤ 6) → (6 - to).toNat < N10 → G p l e ({ frames := 4, cells := 0, slots := 0, locals := 120 } : Room) s m args below meth cd n0 D cA 8 (MQ below (gQi n0 D cA sz (fun z M1 => (z = 1) ∧ ∀ a : Int, a ≠ 4 → M1 a = M a)) args s 0 0 (fun q => n0 ≤ q)) 0 0 M12 sz 16 [(0, gA n0 2), (1, gJ a), (2, gJ b), (3, gJ g), (4, gJ ch), (5, gJ fr), (6, gJ to)] [] := by
          intro N10; induction N10 with
          | zero => intro ch to M12 F13 iw idg ich ito hm11; exfalso; omega
          | succ N10 ih9 =>
            intro ch to M12 F13 iw idg ich ito hm11
            refine g_iload (n := 18) X 6 dX3_layRoad_16 rfl rfl ?_
            refine g_bipush (n := 20) X dX3_layRoad_18 (by decide +kernel) rfl ?_
            refine g_icmp_ge (n := 23) (tgt := 99) X dX3_layRoad_20 (by decide) (by omega) (by omega) rfl (fun c14 => ?_) (fun c14 => ?_)
            · refine g_iinc (n := 102) (w := fr + 1) (L' := [(5, gJ (fr + 1)), (0, gA n0 2), (1, gJ a), (2, gJ b), (3, gJ g), (4, gJ ch), (6, gJ to)]) X 5 dX3_layRoad_99 rfl rfl (by decide) rfl rfl ?_
              refine g_goto (tgt := 6) X dX3_layRoad_102 (by decide) ?_
              refine G.sub (L' := [(0, gA n0 2), (1, gJ a), (2, gJ b), (3, gJ g), (4, gJ ch), (5, gJ (fr + 1))]) [1, 2, 3, 4, 5, 0] rfl ?_
              exact ih2 ch (fr + 1) M12 (fun a h0 => ((F13 a (by omega)).trans ((F6 a (by omega)).trans rfl))) (by exact iw) (by exact idg) (by omega) (by omega) (by omega)
            · refine g_aload_n (n := 24) X 0 dX3_layRoad_23 rfl rfl rfl ?_
              refine g_iload (n := 26) X 5 dX3_layRoad_24 rfl rfl ?_
              refine g_iload_n (n := 27) X 1 dX3_layRoad_26 rfl rfl rfl ?_
              refine g_callVi (n := 30) (As := [gJ fr, gJ a]) (rest := []) (cs1 := 0) (ss1 := 0) X (c_X3_distanceG fr a (by omega) (by omega) (by omega) ((congrFun (F13 2 (by omega)) _).trans ((congrFun (F6 2 (by omega)) _).trans f_2_1)) (by omega)) okX3_distance kw_3_40 ⟨kw_3_41, kw_3_42⟩ ⟨rfl, rfl⟩ ⟨Nat.le_of_ble_eq_true rfl, Nat.le_of_ble_eq_true rfl⟩ rfl (by omega) (by omega) lay_2 rfl rfl (Nat.le_of_ble_eq_true rfl) ⟨Nat.le_of_ble_eq_true rfl, Nat.le_of_ble_eq_true rfl⟩ rfl rfl dX3_layRoad_27 rfl (fun z15 M16 P17 => ?_)
              obtain ⟨rfl, P17⟩ := P17
              refine g_iload_n (n := 31) X 3 dX3_layRoad_30 rfl rfl rfl ?_
              refine g_iadd (n := 32) (z := z15 + g) X dX3_layRoad_31 rfl rfl ?_
              refine g_aload_n (n := 33) X 0 dX3_layRoad_32 rfl rfl rfl ?_
              refine g_iload_n (n := 34) X 2 dX3_layRoad_33 rfl rfl rfl ?_
              refine g_iload (n := 36) X 6 dX3_layRoad_34 rfl rfl ?_
              refine g_callVi (n := 39) (As := [gJ b, gJ to]) (rest := [gJ (z15 + g)]) (cs1 := 0) (ss1 := 0) X (c_X3_distanceG b to (by omega) (by omega) (by omega) ((congrFun (F13 2 (by omega)) _).trans ((congrFun (F6 2 (by omega)) _).trans f_2_1)) (by omega)) okX3_distance kw_3_40 ⟨kw_3_41, kw_3_42⟩ ⟨rfl, rfl⟩ ⟨Nat.le_of_ble_eq_true rfl, Nat.le_of_ble_eq_true rfl⟩ rfl (by omega) (by omega) lay_2 rfl rfl (Nat.le_of_ble_eq_true rfl) ⟨Nat.le_of_ble_eq_true rfl, Nat.le_of_ble_eq_true rfl⟩ rfl rfl dX3_layRoad_36 rfl (fun z18 M19 P20 => ?_)
              obtain ⟨rfl, P20⟩ := P20
              refine g_iadd (n := 40) (z := (z15 + g) + z18) X dX3_layRoad_39 rfl rfl ?_
              refine g_aload_n (n := 41) X 0 dX3_layRoad_40 rfl rfl rfl ?_
              refine g_iload (n := 43) X 5 dX3_layRoad_41 rfl rfl ?_
              refine g_iload_n (n := 44) X 2 dX3_layRoad_43 rfl rfl rfl ?_
              refine g_callVi (n := 47) (As := [gJ fr, gJ b]) (rest := [gJ ((z15 + g) + z18)]) (cs1 := 0) (ss1 := 0) X (c_X3_distanceG fr b (by omega) (by omega) (by omega) ((congrFun (F13 2 (by omega)) _).trans ((congrFun (F6 2 (by omega)) _).trans f_2_1)) (by omega)) okX3_distance kw_3_40 ⟨kw_3_41, kw_3_42⟩ ⟨rfl, rfl⟩ ⟨Nat.le_of_ble_eq_true rfl, Nat.le_of_ble_eq_true rfl⟩ rfl (by omega) (by omega) lay_2 rfl rfl (Nat.le_of_ble_eq_true rfl) ⟨Nat.le_of_ble_eq_true rfl, Nat.le_of_ble_eq_true rfl⟩ rfl rfl dX3_layRoad_44 rfl (fun z21 M22 P23 => ?_)
              obtain ⟨rfl, P23⟩ := P23
              refine g_iload_n (n := 48) X 3 dX3_layRoad_47 rfl rfl rfl ?_
              refine g_iadd (n := 49) (z := z21 + g) X dX3_layRoad_48 rfl rfl ?_
              refine g_aload_n (n := 50) X 0 dX3_layRoad_49 rfl rfl rfl ?_
              refine g_iload_n (n := 51) X 1 dX3_layRoad_50 rfl rfl rfl ?_
              refine g_iload (n := 53) X 6 dX3_layRoad_51 rfl rfl ?_
              refine g_callVi (n := 56) (As := [gJ a, gJ to]) (rest := [gJ (z21 + g), gJ ((z15 + g) + z18)]) (cs1 := 0) (ss1 := 0) X (c_X3_distanceG a to (by omega) (by omega) (by omega) ((congrFun (F13 2 (by omega)) _).trans ((congrFun (F6 2 (by omega)) _).trans f_2_1)) (by omega)) okX3_distance kw_3_40 ⟨kw_3_41, kw_3_42⟩ ⟨rfl, rfl⟩ ⟨Nat.le_of_ble_eq_true rfl, Nat.le_of_ble_eq_true rfl⟩ rfl (by omega) (by omega) lay_2 rfl rfl (Nat.le_of_ble_eq_true rfl) ⟨Nat.le_of_ble_eq_true rfl, Nat.le_of_ble_eq_true rfl⟩ rfl rfl dX3_layRoad_53 rfl (fun z24 M25 P26 => ?_)
              obtain ⟨rfl, P26⟩ := P26
              refine g_iadd (n := 57) (z := (z21 + g) + z24) X dX3_layRoad_56 rfl rfl ?_
              have kfra := iw (fr * 6 + a) (by omega) (by omega)
              have kbto := iw (b * 6 + to) (by omega) (by omega)
              have kfrb := iw (fr * 6 + b) (by omega) (by omega)
              have kato := iw (a * 6 + to) (by omega) (by omega)
              have kfrto := iw (fr * 6 + to) (by omega) (by omega)
              have ke : fr * 6 + to = a * 6 + b → M12 4 (fr * 6 + to) = M12 4 (a * 6 + b) := fun h => by rw [h]
              have kd1 : fr = a → M12 4 (fr * 6 + a) = 0 := fun h => idg (fr * 6 + a) (by omega) (by omega) (by omega)
              have kd2 : b = to → M12 4 (b * 6 + to) = 0 := fun h => idg (b * 6 + to) (by omega) (by omega) (by omega)
              refine g_mmin (n := 60) X kw_3_44 kw_3_45 kw_1_14 kw_3_46 (by omega) (by omega) (Nat.le_of_ble_eq_true rfl) (Nat.le_of_ble_eq_true rfl) (Nat.le_of_ble_eq_true rfl) (Nat.le_of_ble_eq_true rfl) dX3_layRoad_57 rfl (fun x27 hx27 => ?_)
              refine g_istore (n := 62) (L' := [(7, gJ x27), (0, gA n0 2), (1, gJ a), (2, gJ b), (3, gJ g), (4, gJ ch), (5, gJ fr), (6, gJ to)]) X dX3_layRoad_60 (by decide) rfl rfl ?_
              refine g_iload (n := 64) X 0 dX3_layRoad_62 rfl rfl ?_
              refine g_aload_n (n := 65) X 1 dX3_layRoad_64 rfl rfl rfl ?_
              refine g_iload (n := 67) X 6 dX3_layRoad_65 rfl rfl ?_
              refine g_iload (n := 69) X 7 dX3_layRoad_67 rfl rfl ?_
              refine g_callVi (n := 72) (As := [gJ fr, gJ to]) (rest := [gJ x27]) (cs1 := 0) (ss1 := 0) X (c_X3_distanceG fr to (by omega) (by omega) (by omega) ((congrFun (F13 2 (by omega)) _).trans ((congrFun (F6 2 (by omega)) _).trans f_2_1)) (by omega)) okX3_distance kw_3_40 ⟨kw_3_41, kw_3_42⟩ ⟨rfl, rfl⟩ ⟨Nat.le_of_ble_eq_true rfl, Nat.le_of_ble_eq_true rfl⟩ rfl (by omega) (by omega) lay_2 rfl rfl (Nat.le_of_ble_eq_true rfl) ⟨Nat.le_of_ble_eq_true rfl, Nat.le_of_ble_eq_true rfl⟩ rfl rfl dX3_layRoad_69 rfl (fun z28 M29 P30 => ?_)
              obtain ⟨rfl, P30⟩ := P30
              refine g_icmp_ge (n := 75) (tgt := 93) X dX3_layRoad_72 (by decide) (by omega) (by omega) rfl (fun c31 => ?_) (fun c31 => ?_)
              · refine g_iinc (n := 96) (w := to + 1) (L' := [(6, gJ (to + 1)), (7, gJ x27), (0, gA n0 2), (1, gJ a), (2, gJ b), (3, gJ g), (4, gJ ch), (5, gJ fr)]) X 7 dX3_layRoad_93 rfl rfl (by decide) rfl rfl ?_
                refine g_goto (tgt := 16) X dX3_layRoad_96 (by decide) ?_
                refine G.sub (L' := [(0, gA n0 2), (1, gJ a), (2, gJ b), (3, gJ g), (4, gJ ch), (5, gJ fr), (6, gJ (to + 1))]) [2, 3, 4, 5, 6, 7, 0] rfl ?_
                exact ih9 ch (to + 1) M12 (fun a h0 => ((F13 a (by omega)).trans rfl)) (by exact iw) (by exact idg) (by omega) (by omega) (by omega)
              · refine g_aload_n (n := 76) X 1 dX3_layRoad_75 rfl rfl rfl ?_
                refine gg_3_1 (n := 79) (z := 4) X (by omega) (by omega) lay_2 kw_1_43 dX3_layRoad_76 rfl ((congrFun (F13 2 (by omega)) _).trans ((congrFun (F6 2 (by omega)) _).trans f_2_1)) (by omega) ?_
                refine g_iload (n := 81) X 6 dX3_layRoad_79 rfl rfl ?_
                refine g_bipush (n := 83) X dX3_layRoad_81 (by decide +kernel) rfl ?_
                refine g_imul (n := 84) (z := fr * 6) X dX3_layRoad_83 rfl rfl ?_
                refine g_iload (n := 86) X 7 dX3_layRoad_84 rfl rfl ?_
                refine g_iadd (n := 87) (z := (fr * 6) + to) X dX3_layRoad_86 rfl rfl ?_
                refine g_iload (n := 89) X 0 dX3_layRoad_87 rfl rfl ?_
                refine g_iast (n := 90) X (by omega) (by omega) lay_4 (by omega) (by omega) (by omega) dX3_layRoad_89 rfl ?_
                refine G.nm (fun M32 e33 => ?_)
                refine g_iconst (n := 91) X dX3_layRoad_90 rfl ?_
                refine g_istore (n := 93) (L' := [(4, gJ 1), (7, gJ x27), (0, gA n0 2), (1, gJ a), (2, gJ b), (3, gJ g), (5, gJ fr), (6, gJ to)]) X dX3_layRoad_91 (by decide) rfl rfl ?_
                refine g_iinc (n := 96) (w := to + 1) (L' := [(6, gJ (to + 1)), (4, gJ 1), (7, gJ x27), (0, gA n0 2), (1, gJ a), (2, gJ b), (3, gJ g), (5, gJ fr)]) X 7 dX3_layRoad_93 rfl rfl (by decide) rfl rfl ?_
                refine g_goto (tgt := 16) X dX3_layRoad_96 (by decide) ?_
                refine G.sub (L' := [(0, gA n0 2), (1, gJ a), (2, gJ b), (3, gJ g), (4, gJ 1), (5, gJ fr), (6, gJ (to + 1))]) [3, 4, 5, 6, 1, 7, 0] rfl ?_
                exact ih9 1 (to + 1) M32 (fun a h0 => ((congrFun e33 a).trans ((gset_off a (by omega)).trans ((F13 a (by omega)).trans rfl)))) (by intro i h0 h1; rw [e33, gset_at]; have := iw i h0 h1; split <;> omega) (by intro i h0 h1 h2; have kq := idg i h0 h1 h2; rw [e33, gset_at]; split; (rename_i hh; rw [hh.2] at kq; omega); exact kq) (by rw [e33, gset_at]; split <;> omega) (by omega) (by omega)
        refine G.sub (L' := [(0, gA n0 2), (1, gJ a), (2, gJ b), (3, gJ g), (4, gJ ch), (5, gJ fr), (6, gJ 0)]) [1, 2, 3, 4, 5, 6, 0] rfl ?_
        exact loop8 _ ch 0 M5 (fun a _ => rfl) (by exact iw) (by exact idg) (by omega) (by omega) (Nat.lt_succ_self _)
  refine G.sub (L' := [(0, gA n0 2), (1, gJ a), (2, gJ b), (3, gJ g), (4, gJ 0), (5, gJ 0)]) [2, 3, 4, 5, 1, 0] rfl ?_
  exact loop1 _ 0 0 M (fun a _ => rfl) (by intro i h0 h1; have := way i h0 h1; omega) (by intro i h0 h1 h2; have := way i h0 h1; omega) (by have := way (a * 6 + b) (by omega) (by omega); omega) (by omega) (Nat.lt_succ_self _)
theorem dX11_road_0 : decode cX11_road 0 = .ok (.iload_n 1, 1) := by decide +kernel
theorem dX11_road_1 : decode cX11_road 1 = .ok (.invokestatic 58, 3) := by decide +kernel
theorem dX11_road_4 : decode cX11_road 4 = .ok (.ifCond .eq 10, 3) := by decide +kernel
theorem dX11_road_14 : decode cX11_road 14 = .ok (.iconst (-1), 1) := by decide +kernel
theorem dX11_road_15 : decode cX11_road 15 = .ok (.ireturn, 1) := by decide +kernel
theorem dX11_road_7 : decode cX11_road 7 = .ok (.iload_n 2, 1) := by decide +kernel
theorem dX11_road_8 : decode cX11_road 8 = .ok (.invokestatic 58, 3) := by decide +kernel
theorem dX11_road_11 : decode cX11_road 11 = .ok (.ifCond .ne 5, 3) := by decide +kernel
theorem dX11_road_16 : decode cX11_road 16 = .ok (.iload_n 1, 1) := by decide +kernel
theorem dX11_road_17 : decode cX11_road 17 = .ok (.iload_n 2, 1) := by decide +kernel
theorem dX11_road_18 : decode cX11_road 18 = .ok (.if_icmp .eq 13, 3) := by decide +kernel
theorem dX11_road_31 : decode cX11_road 31 = .ok (.bipush (-2), 2) := by decide +kernel
theorem dX11_road_33 : decode cX11_road 33 = .ok (.ireturn, 1) := by decide +kernel
theorem dX11_road_21 : decode cX11_road 21 = .ok (.iload_n 3, 1) := by decide +kernel
theorem dX11_road_22 : decode cX11_road 22 = .ok (.iconst 1, 1) := by decide +kernel
theorem dX11_road_23 : decode cX11_road 23 = .ok (.bipush 9, 2) := by decide +kernel
theorem dX11_road_25 : decode cX11_road 25 = .ok (.invokestatic 62, 3) := by decide +kernel
theorem dX11_road_28 : decode cX11_road 28 = .ok (.ifCond .ne 6, 3) := by decide +kernel
theorem dX11_road_34 : decode cX11_road 34 = .ok (.aload_n 0, 1) := by decide +kernel
theorem dX11_road_35 : decode cX11_road 35 = .ok (.getfield 10, 3) := by decide +kernel
theorem dX11_road_38 : decode cX11_road 38 = .ok (.getfield 66, 3) := by decide +kernel
theorem dX11_road_41 : decode cX11_road 41 = .ok (.iload_n 1, 1) := by decide +kernel
theorem dX11_road_42 : decode cX11_road 42 = .ok (.iload_n 2, 1) := by decide +kernel
theorem dX11_road_43 : decode cX11_road 43 = .ok (.iload_n 3, 1) := by decide +kernel
theorem dX11_road_44 : decode cX11_road 44 = .ok (.invokevirtual 75, 3) := by decide +kernel
theorem kw_3_36 : (Jvm.Cond.methodLink "ParishUnion" (75 : Nat) ({ cls := "ParishUnion$Land", name := "layRoad", desc := "(III)Z" } : Jvm.MethodName)) ∈ gT := gT_of (tb_3 _ (List.mem_of_getElem? (i := 36) rfl)) rfl
theorem kw_3_39 : (Jvm.Cond.code ({ cls := "ParishUnion$Land", name := "layRoad", desc := "(III)Z" } : Jvm.MethodName) prog_5_method_4_code (8 : Nat) (Option.some Jvm.ClassFile.FieldType.boolean)) ∈ gT := gT_of (tb_3 _ (List.mem_of_getElem? (i := 39) rfl)) rfl
theorem okX3_layRoad : gQok yX3_layRoad cX3_layRoad 8 (Option.some Jvm.ClassFile.FieldType.boolean) 3 := ⟨kw_3_39, kw_1_3, by decide +kernel, by decide +kernel, by decide +kernel⟩
theorem kw_3_37 : (Jvm.Cond.instanceMethod ({ cls := "ParishUnion$Land", name := "layRoad", desc := "(III)Z" } : Jvm.MethodName)) ∈ gT := gT_of (tb_3 _ (List.mem_of_getElem? (i := 37) rfl)) rfl
theorem kw_3_38 : (Jvm.Cond.selects "ParishUnion$Land" ({ cls := "ParishUnion$Land", name := "layRoad", desc := "(III)Z" } : Jvm.MethodName) ({ cls := "ParishUnion$Land", name := "layRoad", desc := "(III)Z" } : Jvm.MethodName)) ∈ gT := gT_of (tb_3 _ (List.mem_of_getElem? (i := 38) rfl)) rfl
theorem dX11_road_47 : decode cX11_road 47 = .ok (.ifCond .eq 7, 3) := by decide +kernel
theorem dX11_road_54 : decode cX11_road 54 = .ok (.iconst 0, 1) := by decide +kernel
theorem dX11_road_55 : decode cX11_road 55 = .ok (.ireturn, 1) := by decide +kernel
theorem dX11_road_50 : decode cX11_road 50 = .ok (.iconst 1, 1) := by decide +kernel
theorem dX11_road_51 : decode cX11_road 51 = .ok (.goto 4, 3) := by decide +kernel
set_option maxRecDepth 100000 in
set_option maxHeartbeats 4000000 in
theorem c_X11_road {l : Launch} {n0 : Nat} {D : va_G} {cA : Nat → ClassId} {M : gM} (a b g : Int) (r_a : -2147483648 ≤ a ∧ a ≤ 2147483647) (r_b : -2147483648 ≤ b ∧ b ≤ 2147483647) (r_g : -2147483648 ≤ g ∧ g ≤ 2147483647) {sz : Nat} (hsz : 206 ≤ sz) (f_0_0 : M 0 0 = 2) (f_1_0 : M 1 0 = 3) (f_2_1 : M 2 1 = 5) (way : ∀ i : Int, 0 ≤ i → i < 36 → (i % 7 = 0 → M 4 i = 0) ∧ (¬ i % 7 = 0 → M 4 i = 99)) : Met l yX11_road (gWsOf yX11_road cX11_road 4 (Option.some Jvm.ClassFile.FieldType.int)) { frames := 5, cells := 0, slots := 0, locals := 147 } (gPc n0 D cA [gA n0 0, gJ a, gJ b, gJ g] M sz) (gQi n0 D cA sz (fun z M1 => (((¬(0 ≤ a ∧ a ≤ 5) ∨ ¬(0 ≤ b ∧ b ≤ 5)) → z = -1) ∧ (¬(¬(0 ≤ a ∧ a ≤ 5) ∨ ¬(0 ≤ b ∧ b ≤ 5)) → (a = b ∨ ¬(1 ≤ g ∧ g ≤ 9)) → z = -2) ∧ (¬(¬(0 ≤ a ∧ a ≤ 5) ∨ ¬(0 ≤ b ∧ b ≤ 5)) → ¬(a = b ∨ ¬(1 ≤ g ∧ g ≤ 9)) → (z = 1))) ∧ ∀ a : Int, a ≠ 4 → M1 a = M a)) 0 0 (fun q => n0 ≤ q) := by
  refine gMet_of [gA n0 0, gJ a, gJ b, gJ g] (by decide) (Nat.le_of_ble_eq_true rfl) ?_
  intro p e s m args below meth cd X hr hm
  have X : gCx p s m args meth cd n0 D cA "ParishUnion" cX11_road 4 := X
  show G p l e ({ frames := 5, cells := 0, slots := 0, locals := 147 } : Room) s m args below meth cd n0 D cA 4 (MQ below (gQi n0 D cA sz (fun z M1 => (((¬(0 ≤ a ∧ a ≤ 5) ∨ ¬(0 ≤ b ∧ b ≤ 5)) → z = -1) ∧ (¬(¬(0 ≤ a ∧ a ≤ 5) ∨ ¬(0 ≤ b ∧ b ≤ 5)) → (a = b ∨ ¬(1 ≤ g ∧ g ≤ 9)) → z = -2) ∧ (¬(¬(0 ≤ a ∧ a ≤ 5) ∨ ¬(0 ≤ b ∧ b ≤ 5)) → ¬(a = b ∨ ¬(1 ≤ g ∧ g ≤ 9)) → (z = 1))) ∧ ∀ a : Int, a ≠ 4 → M1 a = M a)) args s 0 0 (fun q => n0 ≤ q)) 0 0 M sz 0 [(0, gA n0 0), (1, gJ a), (2, gJ b), (3, gJ g)] []
  refine g_iload_n (n := 1) X 1 dX11_road_0 rfl rfl rfl ?_
  refine g_callSi (n := 4) (As := [gJ a]) (rest := []) (cs1 := 0) (ss1 := 0) X (c_X11_isParish a (by omega) (by omega)) okX11_isParish kw_3_26 kw_3_27 ⟨rfl, rfl⟩ ⟨Nat.le_of_ble_eq_true rfl, Nat.le_of_ble_eq_true rfl⟩ rfl rfl (Nat.le_of_ble_eq_true rfl) ⟨Nat.le_of_ble_eq_true rfl, Nat.le_of_ble_eq_true rfl⟩ rfl rfl dX11_road_1 rfl (fun z1 M2 P3 => ?_)
  obtain ⟨rfl, P3⟩ := P3
  refine g_if_eq (n := 7) (tgt := 14) X dX11_road_4 (by decide) (by omega) rfl (fun c4 => ?_) (fun c4 => ?_)
  · refine g_iconst (n := 15) X dX11_road_14 rfl ?_
    exact g_ireturn X hr dX11_road_15 (by exact ⟨by omega, fun a h0 => rfl⟩)
  · refine g_iload_n (n := 8) X 2 dX11_road_7 rfl rfl rfl ?_
    refine g_callSi (n := 11) (As := [gJ b]) (rest := []) (cs1 := 0) (ss1 := 0) X (c_X11_isParish b (by omega) (by omega)) okX11_isParish kw_3_26 kw_3_27 ⟨rfl, rfl⟩ ⟨Nat.le_of_ble_eq_true rfl, Nat.le_of_ble_eq_true rfl⟩ rfl rfl (Nat.le_of_ble_eq_true rfl) ⟨Nat.le_of_ble_eq_true rfl, Nat.le_of_ble_eq_true rfl⟩ rfl rfl dX11_road_8 rfl (fun z5 M6 P7 => ?_)
    obtain ⟨rfl, P7⟩ := P7
    refine g_if_ne (n := 14) (tgt := 16) X dX11_road_11 (by decide) (by omega) rfl (fun c8 => ?_) (fun c8 => ?_)
    · refine g_iload_n (n := 17) X 1 dX11_road_16 rfl rfl rfl ?_
      refine g_iload_n (n := 18) X 2 dX11_road_17 rfl rfl rfl ?_
      refine g_icmp_eq (n := 21) (tgt := 31) X dX11_road_18 (by decide) (by omega) (by omega) rfl (fun c9 => ?_) (fun c9 => ?_)
      · refine g_bipush (n := 33) X dX11_road_31 (by decide +kernel) rfl ?_
        exact g_ireturn X hr dX11_road_33 (by exact ⟨by omega, fun a h0 => rfl⟩)
      · refine g_iload_n (n := 22) X 3 dX11_road_21 rfl rfl rfl ?_
        refine g_iconst (n := 23) X dX11_road_22 rfl ?_
        refine g_bipush (n := 25) X dX11_road_23 (by decide +kernel) rfl ?_
        refine g_callSi (n := 28) (As := [gJ g, gJ 1, gJ 9]) (rest := []) (cs1 := 0) (ss1 := 0) X (c_X11_within g 1 9 (by omega) (by omega) (by omega) (by omega)) okX11_within kw_3_29 kw_3_30 ⟨rfl, rfl⟩ ⟨Nat.le_of_ble_eq_true rfl, Nat.le_of_ble_eq_true rfl⟩ rfl rfl (Nat.le_of_ble_eq_true rfl) ⟨Nat.le_of_ble_eq_true rfl, Nat.le_of_ble_eq_true rfl⟩ rfl rfl dX11_road_25 rfl (fun z10 M11 P12 => ?_)
        obtain ⟨rfl, P12⟩ := P12
        refine g_if_ne (n := 31) (tgt := 34) X dX11_road_28 (by decide) (by omega) rfl (fun c13 => ?_) (fun c13 => ?_)
        · refine g_aload_n (n := 35) X 0 dX11_road_34 rfl rfl rfl ?_
          refine gg_11_0 (n := 38) (z := 1) X (by omega) (by omega) lay_0 kw_2_231 dX11_road_35 rfl f_0_0 (by omega) ?_
          refine gg_9_0 (n := 41) (z := 2) X (by omega) (by omega) lay_1 kw_2_105 dX11_road_38 rfl f_1_0 (by omega) ?_
          refine g_iload_n (n := 42) X 1 dX11_road_41 rfl rfl rfl ?_
          refine g_iload_n (n := 43) X 2 dX11_road_42 rfl rfl rfl ?_
          refine g_iload_n (n := 44) X 3 dX11_road_43 rfl rfl rfl ?_
          refine g_callVi (n := 47) (As := [gJ a, gJ b, gJ g]) (rest := []) (cs1 := 0) (ss1 := 0) X (c_X3_layRoad a b g (by omega) (by omega) (by omega) (by omega) f_2_1 (by omega) way) okX3_layRoad kw_3_36 ⟨kw_3_37, kw_3_38⟩ ⟨rfl, rfl⟩ ⟨Nat.le_of_ble_eq_true rfl, Nat.le_of_ble_eq_true rfl⟩ rfl (by omega) (by omega) lay_2 rfl rfl (Nat.le_of_ble_eq_true rfl) ⟨Nat.le_of_ble_eq_true rfl, Nat.le_of_ble_eq_true rfl⟩ rfl rfl dX11_road_44 rfl (fun z14 M15 P16 => ?_)
          obtain ⟨P16, F17⟩ := P16
          refine g_if_eq (n := 50) (tgt := 54) X dX11_road_47 (by decide) (by omega) rfl (fun c18 => ?_) (fun c18 => ?_)
          · refine g_iconst (n := 55) X dX11_road_54 rfl ?_
            exact g_ireturn X hr dX11_road_55 (by exact ⟨by omega, fun a h0 => ((F17 a (by omega)).trans rfl)⟩)
          · refine g_iconst (n := 51) X dX11_road_50 rfl ?_
            refine g_goto (tgt := 55) X dX11_road_51 (by decide) ?_
            exact g_ireturn X hr dX11_road_55 (by exact ⟨by omega, fun a h0 => ((F17 a (by omega)).trans rfl)⟩)
        · refine g_bipush (n := 33) X dX11_road_31 (by decide +kernel) rfl ?_
          exact g_ireturn X hr dX11_road_33 (by exact ⟨by omega, fun a h0 => rfl⟩)
    · refine g_iconst (n := 15) X dX11_road_14 rfl ?_
      exact g_ireturn X hr dX11_road_15 (by exact ⟨by omega, fun a h0 => rfl⟩)
