theorem dL_law_692 : decode code 692 = .ok (.aload_n 1, 1) := by decide +kernel
theorem dL_law_693 : decode code 693 = .ok (.aload_n 0, 1) := by decide +kernel
theorem dL_law_694 : decode code 694 = .ok (.iload_n 3, 1) := by decide +kernel
theorem dL_law_695 : decode code 695 = .ok (.iconst 1, 1) := by decide +kernel
theorem dL_law_696 : decode code 696 = .ok (.iadd, 1) := by decide +kernel
theorem dL_law_697 : decode code 697 = .ok (.iaload, 1) := by decide +kernel
theorem dL_law_698 : decode code 698 = .ok (.aload_n 0, 1) := by decide +kernel
theorem dL_law_699 : decode code 699 = .ok (.iload_n 3, 1) := by decide +kernel
theorem dL_law_700 : decode code 700 = .ok (.iconst 2, 1) := by decide +kernel
theorem dL_law_701 : decode code 701 = .ok (.iadd, 1) := by decide +kernel
theorem dL_law_702 : decode code 702 = .ok (.iaload, 1) := by decide +kernel
theorem dL_law_703 : decode code 703 = .ok (.ifCond .eq 7, 3) := by decide +kernel
theorem dL_law_710 : decode code 710 = .ok (.iconst 0, 1) := by decide +kernel
theorem dL_law_711 : decode code 711 = .ok (.invokevirtual 51, 3) := by decide +kernel
theorem kw_3_92 : (Jvm.Cond.methodLink "ParishUnionLaw" (51 : Nat) ({ cls := "ParishUnion", name := "proof", desc := "(IZ)I" } : Jvm.MethodName)) ∈ gT := gT_of (tb_3 _ (List.mem_of_getElem? (i := 92) rfl)) rfl
theorem kw_3_95 : (Jvm.Cond.code ({ cls := "ParishUnion", name := "proof", desc := "(IZ)I" } : Jvm.MethodName) prog_1_method_10_code (4 : Nat) (Option.some Jvm.ClassFile.FieldType.int)) ∈ gT := gT_of (tb_3 _ (List.mem_of_getElem? (i := 95) rfl)) rfl
theorem okX11_proof : gQok yX11_proof cX11_proof 4 (Option.some Jvm.ClassFile.FieldType.int) 2 := ⟨kw_3_95, kw_1_1, by decide +kernel, by decide +kernel, by decide +kernel⟩
theorem kw_3_93 : (Jvm.Cond.instanceMethod ({ cls := "ParishUnion", name := "proof", desc := "(IZ)I" } : Jvm.MethodName)) ∈ gT := gT_of (tb_3 _ (List.mem_of_getElem? (i := 93) rfl)) rfl
theorem kw_3_94 : (Jvm.Cond.selects "ParishUnion" ({ cls := "ParishUnion", name := "proof", desc := "(IZ)I" } : Jvm.MethodName) ({ cls := "ParishUnion", name := "proof", desc := "(IZ)I" } : Jvm.MethodName)) ∈ gT := gT_of (tb_3 _ (List.mem_of_getElem? (i := 94) rfl)) rfl
theorem dL_law_714 : decode code 714 = .ok (.aload_n 2, 1) := by decide +kernel
theorem dL_law_715 : decode code 715 = .ok (.aload_n 0, 1) := by decide +kernel
theorem dL_law_716 : decode code 716 = .ok (.iload_n 3, 1) := by decide +kernel
theorem dL_law_717 : decode code 717 = .ok (.iconst 1, 1) := by decide +kernel
theorem dL_law_718 : decode code 718 = .ok (.iadd, 1) := by decide +kernel
theorem dL_law_719 : decode code 719 = .ok (.iaload, 1) := by decide +kernel
theorem dL_law_720 : decode code 720 = .ok (.aload_n 0, 1) := by decide +kernel
theorem dL_law_721 : decode code 721 = .ok (.iload_n 3, 1) := by decide +kernel
theorem dL_law_722 : decode code 722 = .ok (.iconst 2, 1) := by decide +kernel
theorem dL_law_723 : decode code 723 = .ok (.iadd, 1) := by decide +kernel
theorem dL_law_724 : decode code 724 = .ok (.iaload, 1) := by decide +kernel
theorem dL_law_725 : decode code 725 = .ok (.ifCond .eq 7, 3) := by decide +kernel
theorem dL_law_732 : decode code 732 = .ok (.iconst 0, 1) := by decide +kernel
theorem dL_law_733 : decode code 733 = .ok (.invokevirtual 55, 3) := by decide +kernel
theorem kw_6_157 : (Jvm.Cond.methodLink "ParishUnionLaw" (55 : Nat) ({ cls := "ParishUnionModel", name := "proof", desc := "(IZ)I" } : Jvm.MethodName)) ∈ gT := gT_of (tb_6 _ (List.mem_of_getElem? (i := 157) rfl)) rfl
theorem kw_6_160 : (Jvm.Cond.code ({ cls := "ParishUnionModel", name := "proof", desc := "(IZ)I" } : Jvm.MethodName) prog_14_method_22_code (5 : Nat) (Option.some Jvm.ClassFile.FieldType.int)) ∈ gT := gT_of (tb_6 _ (List.mem_of_getElem? (i := 160) rfl)) rfl
theorem okX12_proof : gQok yX12_proof cX12_proof 5 (Option.some Jvm.ClassFile.FieldType.int) 2 := ⟨kw_6_160, kw_1_13, by decide +kernel, by decide +kernel, by decide +kernel⟩
theorem kw_6_158 : (Jvm.Cond.instanceMethod ({ cls := "ParishUnionModel", name := "proof", desc := "(IZ)I" } : Jvm.MethodName)) ∈ gT := gT_of (tb_6 _ (List.mem_of_getElem? (i := 158) rfl)) rfl
theorem kw_6_159 : (Jvm.Cond.selects "ParishUnionModel" ({ cls := "ParishUnionModel", name := "proof", desc := "(IZ)I" } : Jvm.MethodName) ({ cls := "ParishUnionModel", name := "proof", desc := "(IZ)I" } : Jvm.MethodName)) ∈ gT := gT_of (tb_6 _ (List.mem_of_getElem? (i := 159) rfl)) rfl
theorem dL_law_736 : decode code 736 = .ok (.if_icmp .eq 1256, 3) := by decide +kernel
theorem dL_law_728 : decode code 728 = .ok (.iconst 1, 1) := by decide +kernel
theorem dL_law_729 : decode code 729 = .ok (.goto 4, 3) := by decide +kernel
theorem dL_law_706 : decode code 706 = .ok (.iconst 1, 1) := by decide +kernel
theorem dL_law_707 : decode code 707 = .ok (.goto 4, 3) := by decide +kernel
set_option maxRecDepth 100000 in
set_option maxHeartbeats 4000000 in
theorem law_case_8 {p : Program} {e : Env} {s : State} {m : MethodId} {below : List Frame} {meth : Method} {c : Code} {l : Launch} {D : va_G} {cA : Nat → ClassId} {b : Nat} {xs : Nat → Int32} (X : gCx p s m #[Value.ref b] meth c s.heap.size D cA "ParishUnionLaw" code 4) (hr : meth.sig.returnType = ret) (hb : b < s.heap.size ∧ va_X b 7 xs s s.heap) {M : gM} (hFr : gFr M) : G p l e room_1 s m #[Value.ref b] below meth c s.heap.size D cA 4 (lw_Z below #[Value.ref b] s) 206 87467 M 206 692 [(3, gJ 0), (2, gA s.heap.size 190), (1, gA s.heap.size 0), (0, .ref b)] [] := by
  have rents := gFr_rents hFr
  have way := gFr_way hFr
  have beds := gFr_beds hFr
  have frost0 := gFr_frost0 hFr
  have rows0 := gFr_rows0 hFr
  have rooms0 := gFr_rooms0 hFr
  have tape0 := gFr_tape0 hFr
  have car0 := gFr_car0 hFr
  have hS := gFr_hS hFr
  obtain ⟨v0, e0, r0⟩ : ∃ z : Int, xs 0 = Int32.ofInt z ∧ -2147483648 ≤ z ∧ z ≤ 2147483647 := ⟨_, gi_of _, gi_rg _⟩
  obtain ⟨v1, e1, r1⟩ : ∃ z : Int, xs 1 = Int32.ofInt z ∧ -2147483648 ≤ z ∧ z ≤ 2147483647 := ⟨_, gi_of _, gi_rg _⟩
  obtain ⟨v2, e2, r2⟩ : ∃ z : Int, xs 2 = Int32.ofInt z ∧ -2147483648 ≤ z ∧ z ≤ 2147483647 := ⟨_, gi_of _, gi_rg _⟩
  obtain ⟨v3, e3, r3⟩ : ∃ z : Int, xs 3 = Int32.ofInt z ∧ -2147483648 ≤ z ∧ z ≤ 2147483647 := ⟨_, gi_of _, gi_rg _⟩
  obtain ⟨v4, e4, r4⟩ : ∃ z : Int, xs 4 = Int32.ofInt z ∧ -2147483648 ≤ z ∧ z ≤ 2147483647 := ⟨_, gi_of _, gi_rg _⟩
  obtain ⟨v5, e5, r5⟩ : ∃ z : Int, xs 5 = Int32.ofInt z ∧ -2147483648 ≤ z ∧ z ≤ 2147483647 := ⟨_, gi_of _, gi_rg _⟩
  obtain ⟨v6, e6, r6⟩ : ∃ z : Int, xs 6 = Int32.ofInt z ∧ -2147483648 ≤ z ∧ z ≤ 2147483647 := ⟨_, gi_of _, gi_rg _⟩
  refine g_aload_n (n := 693) X 2 dL_law_692 rfl rfl rfl ?_
  refine g_aload_n (n := 694) X 3 dL_law_693 rfl rfl rfl ?_
  refine g_iload_n (n := 695) X 0 dL_law_694 rfl rfl rfl ?_
  refine g_iconst (n := 696) X dL_law_695 rfl ?_
  refine g_iadd (n := 697) (z := 1) X dL_law_696 rfl rfl ?_
  refine g_scrld (n := 698) (z := v1) X hb (by omega) (by omega) (by omega) dL_law_697 rfl e1 ?_
  refine g_aload_n (n := 699) X 3 dL_law_698 rfl rfl rfl ?_
  refine g_iload_n (n := 700) X 0 dL_law_699 rfl rfl rfl ?_
  refine g_iconst (n := 701) X dL_law_700 rfl ?_
  refine g_iadd (n := 702) (z := 2) X dL_law_701 rfl rfl ?_
  refine g_scrld (n := 703) (z := v2) X hb (by omega) (by omega) (by omega) dL_law_702 rfl e2 ?_
  refine g_if_eq (n := 706) (tgt := 710) X dL_law_703 (by decide) (by omega) rfl (fun c1 => ?_) (fun c1 => ?_)
  · refine g_iconst (n := 711) X dL_law_710 rfl ?_
    refine g_callVi (n := 714) (As := [gJ v1, gJ 0]) (rest := []) (cs1 := 206) (ss1 := 87467) X (c_X11_proof v1 0 (by omega) (by omega) (by omega) (gFr_0_0 hFr) (gFr_1_11 hFr)) okX11_proof kw_3_92 ⟨kw_3_93, kw_3_94⟩ ⟨rfl, rfl⟩ ⟨Nat.le_of_ble_eq_true rfl, Nat.le_of_ble_eq_true rfl⟩ rfl (by omega) (by omega) lay_0 rfl rfl (Nat.le_of_ble_eq_true rfl) ⟨Nat.le_of_ble_eq_true rfl, Nat.le_of_ble_eq_true rfl⟩ rfl rfl dL_law_711 rfl (fun z2 M3 P4 => ?_)
    obtain ⟨P4, F5⟩ := P4
    refine g_aload_n (n := 715) X 1 dL_law_714 rfl rfl rfl ?_
    refine g_aload_n (n := 716) X 3 dL_law_715 rfl rfl rfl ?_
    refine g_iload_n (n := 717) X 0 dL_law_716 rfl rfl rfl ?_
    refine g_iconst (n := 718) X dL_law_717 rfl ?_
    refine g_iadd (n := 719) (z := 1) X dL_law_718 rfl rfl ?_
    refine g_scrld (n := 720) (z := v1) X hb (by omega) (by omega) (by omega) dL_law_719 rfl e1 ?_
    refine g_aload_n (n := 721) X 3 dL_law_720 rfl rfl rfl ?_
    refine g_iload_n (n := 722) X 0 dL_law_721 rfl rfl rfl ?_
    refine g_iconst (n := 723) X dL_law_722 rfl ?_
    refine g_iadd (n := 724) (z := 2) X dL_law_723 rfl rfl ?_
    refine g_scrld (n := 725) (z := v2) X hb (by omega) (by omega) (by omega) dL_law_724 rfl e2 ?_
    refine g_if_eq (n := 728) (tgt := 732) X dL_law_725 (by decide) (by omega) rfl (fun c6 => ?_) (fun c6 => ?_)
    · refine g_iconst (n := 733) X dL_law_732 rfl ?_
      refine g_callVi (n := 736) (As := [gJ v1, gJ 0]) (rest := [gJ z2]) (cs1 := 206) (ss1 := 87467) X (c_X12_proof v1 0 (by omega) (by omega) (by omega) ((congrFun (F5 190) _).trans (gFr_190_1 hFr)) ((congrFun (F5 191) _).trans ((hS 2 (by omega) (by omega)).trans (by decide)))) okX12_proof kw_6_157 ⟨kw_6_158, kw_6_159⟩ ⟨rfl, rfl⟩ ⟨Nat.le_of_ble_eq_true rfl, Nat.le_of_ble_eq_true rfl⟩ rfl (by omega) (by omega) lay_190 rfl rfl (Nat.le_of_ble_eq_true rfl) ⟨Nat.le_of_ble_eq_true rfl, Nat.le_of_ble_eq_true rfl⟩ rfl rfl dL_law_733 rfl (fun z7 M8 P9 => ?_)
      obtain ⟨P9, F10⟩ := P9
      refine g_icmp_eq (n := 739) (tgt := 1992) X dL_law_736 (by decide) (by omega) (by omega) rfl (fun c11 => ?_) (fun c11 => by exfalso; omega)
      exact law_tail X hr hb (by omega) (by omega)
    · refine g_iconst (n := 729) X dL_law_728 rfl ?_
      refine g_goto (tgt := 733) X dL_law_729 (by decide) ?_
      refine g_callVi (n := 736) (As := [gJ v1, gJ 1]) (rest := [gJ z2]) (cs1 := 206) (ss1 := 87467) X (c_X12_proof v1 1 (by omega) (by omega) (by omega) ((congrFun (F5 190) _).trans (gFr_190_1 hFr)) ((congrFun (F5 191) _).trans ((hS 2 (by omega) (by omega)).trans (by decide)))) okX12_proof kw_6_157 ⟨kw_6_158, kw_6_159⟩ ⟨rfl, rfl⟩ ⟨Nat.le_of_ble_eq_true rfl, Nat.le_of_ble_eq_true rfl⟩ rfl (by omega) (by omega) lay_190 rfl rfl (Nat.le_of_ble_eq_true rfl) ⟨Nat.le_of_ble_eq_true rfl, Nat.le_of_ble_eq_true rfl⟩ rfl rfl dL_law_733 rfl (fun z12 M13 P14 => ?_)
      obtain ⟨P14, F15⟩ := P14
      refine g_icmp_eq (n := 739) (tgt := 1992) X dL_law_736 (by decide) (by omega) (by omega) rfl (fun c16 => ?_) (fun c16 => by exfalso; omega)
      exact law_tail X hr hb (by omega) (by omega)
  · refine g_iconst (n := 707) X dL_law_706 rfl ?_
    refine g_goto (tgt := 711) X dL_law_707 (by decide) ?_
    refine g_callVi (n := 714) (As := [gJ v1, gJ 1]) (rest := []) (cs1 := 206) (ss1 := 87467) X (c_X11_proof v1 1 (by omega) (by omega) (by omega) (gFr_0_0 hFr) (gFr_1_11 hFr)) okX11_proof kw_3_92 ⟨kw_3_93, kw_3_94⟩ ⟨rfl, rfl⟩ ⟨Nat.le_of_ble_eq_true rfl, Nat.le_of_ble_eq_true rfl⟩ rfl (by omega) (by omega) lay_0 rfl rfl (Nat.le_of_ble_eq_true rfl) ⟨Nat.le_of_ble_eq_true rfl, Nat.le_of_ble_eq_true rfl⟩ rfl rfl dL_law_711 rfl (fun z17 M18 P19 => ?_)
    obtain ⟨P19, F20⟩ := P19
    refine g_aload_n (n := 715) X 1 dL_law_714 rfl rfl rfl ?_
    refine g_aload_n (n := 716) X 3 dL_law_715 rfl rfl rfl ?_
    refine g_iload_n (n := 717) X 0 dL_law_716 rfl rfl rfl ?_
    refine g_iconst (n := 718) X dL_law_717 rfl ?_
    refine g_iadd (n := 719) (z := 1) X dL_law_718 rfl rfl ?_
    refine g_scrld (n := 720) (z := v1) X hb (by omega) (by omega) (by omega) dL_law_719 rfl e1 ?_
    refine g_aload_n (n := 721) X 3 dL_law_720 rfl rfl rfl ?_
    refine g_iload_n (n := 722) X 0 dL_law_721 rfl rfl rfl ?_
    refine g_iconst (n := 723) X dL_law_722 rfl ?_
    refine g_iadd (n := 724) (z := 2) X dL_law_723 rfl rfl ?_
    refine g_scrld (n := 725) (z := v2) X hb (by omega) (by omega) (by omega) dL_law_724 rfl e2 ?_
    refine g_if_eq (n := 728) (tgt := 732) X dL_law_725 (by decide) (by omega) rfl (fun c21 => ?_) (fun c21 => ?_)
    · refine g_iconst (n := 733) X dL_law_732 rfl ?_
      refine g_callVi (n := 736) (As := [gJ v1, gJ 0]) (rest := [gJ z17]) (cs1 := 206) (ss1 := 87467) X (c_X12_proof v1 0 (by omega) (by omega) (by omega) ((congrFun (F20 190) _).trans (gFr_190_1 hFr)) ((congrFun (F20 191) _).trans ((hS 2 (by omega) (by omega)).trans (by decide)))) okX12_proof kw_6_157 ⟨kw_6_158, kw_6_159⟩ ⟨rfl, rfl⟩ ⟨Nat.le_of_ble_eq_true rfl, Nat.le_of_ble_eq_true rfl⟩ rfl (by omega) (by omega) lay_190 rfl rfl (Nat.le_of_ble_eq_true rfl) ⟨Nat.le_of_ble_eq_true rfl, Nat.le_of_ble_eq_true rfl⟩ rfl rfl dL_law_733 rfl (fun z22 M23 P24 => ?_)
      obtain ⟨P24, F25⟩ := P24
      refine g_icmp_eq (n := 739) (tgt := 1992) X dL_law_736 (by decide) (by omega) (by omega) rfl (fun c26 => ?_) (fun c26 => by exfalso; omega)
      exact law_tail X hr hb (by omega) (by omega)
    · refine g_iconst (n := 729) X dL_law_728 rfl ?_
      refine g_goto (tgt := 733) X dL_law_729 (by decide) ?_
      refine g_callVi (n := 736) (As := [gJ v1, gJ 1]) (rest := [gJ z17]) (cs1 := 206) (ss1 := 87467) X (c_X12_proof v1 1 (by omega) (by omega) (by omega) ((congrFun (F20 190) _).trans (gFr_190_1 hFr)) ((congrFun (F20 191) _).trans ((hS 2 (by omega) (by omega)).trans (by decide)))) okX12_proof kw_6_157 ⟨kw_6_158, kw_6_159⟩ ⟨rfl, rfl⟩ ⟨Nat.le_of_ble_eq_true rfl, Nat.le_of_ble_eq_true rfl⟩ rfl (by omega) (by omega) lay_190 rfl rfl (Nat.le_of_ble_eq_true rfl) ⟨Nat.le_of_ble_eq_true rfl, Nat.le_of_ble_eq_true rfl⟩ rfl rfl dL_law_733 rfl (fun z27 M28 P29 => ?_)
      obtain ⟨P29, F30⟩ := P29
      refine g_icmp_eq (n := 739) (tgt := 1992) X dL_law_736 (by decide) (by omega) (by omega) rfl (fun c31 => ?_) (fun c31 => by exfalso; omega)
      exact law_tail X hr hb (by omega) (by omega)
theorem dL_law_741 : decode code 741 = .ok (.aload_n 1, 1) := by decide +kernel
theorem dL_law_742 : decode code 742 = .ok (.aload_n 0, 1) := by decide +kernel
theorem dL_law_743 : decode code 743 = .ok (.iload_n 3, 1) := by decide +kernel
theorem dL_law_744 : decode code 744 = .ok (.iconst 1, 1) := by decide +kernel
theorem dL_law_745 : decode code 745 = .ok (.iadd, 1) := by decide +kernel
theorem dL_law_746 : decode code 746 = .ok (.iaload, 1) := by decide +kernel
theorem dL_law_747 : decode code 747 = .ok (.aload_n 0, 1) := by decide +kernel
theorem dL_law_748 : decode code 748 = .ok (.iload_n 3, 1) := by decide +kernel
theorem dL_law_749 : decode code 749 = .ok (.iconst 2, 1) := by decide +kernel
theorem dL_law_750 : decode code 750 = .ok (.iadd, 1) := by decide +kernel
theorem dL_law_751 : decode code 751 = .ok (.iaload, 1) := by decide +kernel
theorem dL_law_752 : decode code 752 = .ok (.invokevirtual 56, 3) := by decide +kernel
theorem kw_3_100 : (Jvm.Cond.methodLink "ParishUnionLaw" (56 : Nat) ({ cls := "ParishUnion", name := "right", desc := "(II)I" } : Jvm.MethodName)) ∈ gT := gT_of (tb_3 _ (List.mem_of_getElem? (i := 100) rfl)) rfl
theorem kw_3_103 : (Jvm.Cond.code ({ cls := "ParishUnion", name := "right", desc := "(II)I" } : Jvm.MethodName) prog_1_method_11_code (4 : Nat) (Option.some Jvm.ClassFile.FieldType.int)) ∈ gT := gT_of (tb_3 _ (List.mem_of_getElem? (i := 103) rfl)) rfl
theorem okX11_right : gQok yX11_right cX11_right 4 (Option.some Jvm.ClassFile.FieldType.int) 2 := ⟨kw_3_103, kw_1_1, by decide +kernel, by decide +kernel, by decide +kernel⟩
theorem kw_3_101 : (Jvm.Cond.instanceMethod ({ cls := "ParishUnion", name := "right", desc := "(II)I" } : Jvm.MethodName)) ∈ gT := gT_of (tb_3 _ (List.mem_of_getElem? (i := 101) rfl)) rfl
theorem kw_3_102 : (Jvm.Cond.selects "ParishUnion" ({ cls := "ParishUnion", name := "right", desc := "(II)I" } : Jvm.MethodName) ({ cls := "ParishUnion", name := "right", desc := "(II)I" } : Jvm.MethodName)) ∈ gT := gT_of (tb_3 _ (List.mem_of_getElem? (i := 102) rfl)) rfl
theorem dL_law_755 : decode code 755 = .ok (.aload_n 2, 1) := by decide +kernel
theorem dL_law_756 : decode code 756 = .ok (.aload_n 0, 1) := by decide +kernel
theorem dL_law_757 : decode code 757 = .ok (.iload_n 3, 1) := by decide +kernel
theorem dL_law_758 : decode code 758 = .ok (.iconst 1, 1) := by decide +kernel
theorem dL_law_759 : decode code 759 = .ok (.iadd, 1) := by decide +kernel
theorem dL_law_760 : decode code 760 = .ok (.iaload, 1) := by decide +kernel
theorem dL_law_761 : decode code 761 = .ok (.aload_n 0, 1) := by decide +kernel
theorem dL_law_762 : decode code 762 = .ok (.iload_n 3, 1) := by decide +kernel
theorem dL_law_763 : decode code 763 = .ok (.iconst 2, 1) := by decide +kernel
theorem dL_law_764 : decode code 764 = .ok (.iadd, 1) := by decide +kernel
theorem dL_law_765 : decode code 765 = .ok (.iaload, 1) := by decide +kernel
theorem dL_law_766 : decode code 766 = .ok (.invokevirtual 59, 3) := by decide +kernel
theorem kw_6_161 : (Jvm.Cond.methodLink "ParishUnionLaw" (59 : Nat) ({ cls := "ParishUnionModel", name := "right", desc := "(II)I" } : Jvm.MethodName)) ∈ gT := gT_of (tb_6 _ (List.mem_of_getElem? (i := 161) rfl)) rfl
theorem kw_6_164 : (Jvm.Cond.code ({ cls := "ParishUnionModel", name := "right", desc := "(II)I" } : Jvm.MethodName) prog_14_method_23_code (3 : Nat) (Option.some Jvm.ClassFile.FieldType.int)) ∈ gT := gT_of (tb_6 _ (List.mem_of_getElem? (i := 164) rfl)) rfl
theorem okX12_right : gQok yX12_right cX12_right 3 (Option.some Jvm.ClassFile.FieldType.int) 2 := ⟨kw_6_164, kw_1_13, by decide +kernel, by decide +kernel, by decide +kernel⟩
theorem kw_6_162 : (Jvm.Cond.instanceMethod ({ cls := "ParishUnionModel", name := "right", desc := "(II)I" } : Jvm.MethodName)) ∈ gT := gT_of (tb_6 _ (List.mem_of_getElem? (i := 162) rfl)) rfl
theorem kw_6_163 : (Jvm.Cond.selects "ParishUnionModel" ({ cls := "ParishUnionModel", name := "right", desc := "(II)I" } : Jvm.MethodName) ({ cls := "ParishUnionModel", name := "right", desc := "(II)I" } : Jvm.MethodName)) ∈ gT := gT_of (tb_6 _ (List.mem_of_getElem? (i := 163) rfl)) rfl
theorem dL_law_769 : decode code 769 = .ok (.if_icmp .eq 1223, 3) := by decide +kernel
set_option maxRecDepth 100000 in
set_option maxHeartbeats 4000000 in
theorem law_case_9 {p : Program} {e : Env} {s : State} {m : MethodId} {below : List Frame} {meth : Method} {c : Code} {l : Launch} {D : va_G} {cA : Nat → ClassId} {b : Nat} {xs : Nat → Int32} (X : gCx p s m #[Value.ref b] meth c s.heap.size D cA "ParishUnionLaw" code 4) (hr : meth.sig.returnType = ret) (hb : b < s.heap.size ∧ va_X b 7 xs s s.heap) {M : gM} (hFr : gFr M) : G p l e room_1 s m #[Value.ref b] below meth c s.heap.size D cA 4 (lw_Z below #[Value.ref b] s) 206 87467 M 206 741 [(3, gJ 0), (2, gA s.heap.size 190), (1, gA s.heap.size 0), (0, .ref b)] [] := by
  have rents := gFr_rents hFr
  have way := gFr_way hFr
  have beds := gFr_beds hFr
  have frost0 := gFr_frost0 hFr
  have rows0 := gFr_rows0 hFr
  have rooms0 := gFr_rooms0 hFr
  have tape0 := gFr_tape0 hFr
  have car0 := gFr_car0 hFr
  have hS := gFr_hS hFr
  obtain ⟨v0, e0, r0⟩ : ∃ z : Int, xs 0 = Int32.ofInt z ∧ -2147483648 ≤ z ∧ z ≤ 2147483647 := ⟨_, gi_of _, gi_rg _⟩
  obtain ⟨v1, e1, r1⟩ : ∃ z : Int, xs 1 = Int32.ofInt z ∧ -2147483648 ≤ z ∧ z ≤ 2147483647 := ⟨_, gi_of _, gi_rg _⟩
  obtain ⟨v2, e2, r2⟩ : ∃ z : Int, xs 2 = Int32.ofInt z ∧ -2147483648 ≤ z ∧ z ≤ 2147483647 := ⟨_, gi_of _, gi_rg _⟩
  obtain ⟨v3, e3, r3⟩ : ∃ z : Int, xs 3 = Int32.ofInt z ∧ -2147483648 ≤ z ∧ z ≤ 2147483647 := ⟨_, gi_of _, gi_rg _⟩
  obtain ⟨v4, e4, r4⟩ : ∃ z : Int, xs 4 = Int32.ofInt z ∧ -2147483648 ≤ z ∧ z ≤ 2147483647 := ⟨_, gi_of _, gi_rg _⟩
  obtain ⟨v5, e5, r5⟩ : ∃ z : Int, xs 5 = Int32.ofInt z ∧ -2147483648 ≤ z ∧ z ≤ 2147483647 := ⟨_, gi_of _, gi_rg _⟩
  obtain ⟨v6, e6, r6⟩ : ∃ z : Int, xs 6 = Int32.ofInt z ∧ -2147483648 ≤ z ∧ z ≤ 2147483647 := ⟨_, gi_of _, gi_rg _⟩
  refine g_aload_n (n := 742) X 2 dL_law_741 rfl rfl rfl ?_
  refine g_aload_n (n := 743) X 3 dL_law_742 rfl rfl rfl ?_
  refine g_iload_n (n := 744) X 0 dL_law_743 rfl rfl rfl ?_
  refine g_iconst (n := 745) X dL_law_744 rfl ?_
  refine g_iadd (n := 746) (z := 1) X dL_law_745 rfl rfl ?_
  refine g_scrld (n := 747) (z := v1) X hb (by omega) (by omega) (by omega) dL_law_746 rfl e1 ?_
  refine g_aload_n (n := 748) X 3 dL_law_747 rfl rfl rfl ?_
  refine g_iload_n (n := 749) X 0 dL_law_748 rfl rfl rfl ?_
  refine g_iconst (n := 750) X dL_law_749 rfl ?_
  refine g_iadd (n := 751) (z := 2) X dL_law_750 rfl rfl ?_
  refine g_scrld (n := 752) (z := v2) X hb (by omega) (by omega) (by omega) dL_law_751 rfl e2 ?_
  refine g_callVi (n := 755) (As := [gJ v1, gJ v2]) (rest := []) (cs1 := 206) (ss1 := 87467) X (c_X11_right v1 v2 (by omega) (by omega) (by omega) (gFr_0_0 hFr) (gFr_1_11 hFr)) okX11_right kw_3_100 ⟨kw_3_101, kw_3_102⟩ ⟨rfl, rfl⟩ ⟨Nat.le_of_ble_eq_true rfl, Nat.le_of_ble_eq_true rfl⟩ rfl (by omega) (by omega) lay_0 rfl rfl (Nat.le_of_ble_eq_true rfl) ⟨Nat.le_of_ble_eq_true rfl, Nat.le_of_ble_eq_true rfl⟩ rfl rfl dL_law_752 rfl (fun z1 M2 P3 => ?_)
  obtain ⟨P3, F4⟩ := P3
  refine g_aload_n (n := 756) X 1 dL_law_755 rfl rfl rfl ?_
  refine g_aload_n (n := 757) X 3 dL_law_756 rfl rfl rfl ?_
  refine g_iload_n (n := 758) X 0 dL_law_757 rfl rfl rfl ?_
  refine g_iconst (n := 759) X dL_law_758 rfl ?_
  refine g_iadd (n := 760) (z := 1) X dL_law_759 rfl rfl ?_
  refine g_scrld (n := 761) (z := v1) X hb (by omega) (by omega) (by omega) dL_law_760 rfl e1 ?_
  refine g_aload_n (n := 762) X 3 dL_law_761 rfl rfl rfl ?_
  refine g_iload_n (n := 763) X 0 dL_law_762 rfl rfl rfl ?_
  refine g_iconst (n := 764) X dL_law_763 rfl ?_
  refine g_iadd (n := 765) (z := 2) X dL_law_764 rfl rfl ?_
  refine g_scrld (n := 766) (z := v2) X hb (by omega) (by omega) (by omega) dL_law_765 rfl e2 ?_
  refine g_callVi (n := 769) (As := [gJ v1, gJ v2]) (rest := [gJ z1]) (cs1 := 206) (ss1 := 87467) X (c_X12_right v1 v2 (by omega) (by omega) (by omega) ((congrFun (F4 190) _).trans (gFr_190_1 hFr)) ((congrFun (F4 191) _).trans ((hS 2 (by omega) (by omega)).trans (by decide)))) okX12_right kw_6_161 ⟨kw_6_162, kw_6_163⟩ ⟨rfl, rfl⟩ ⟨Nat.le_of_ble_eq_true rfl, Nat.le_of_ble_eq_true rfl⟩ rfl (by omega) (by omega) lay_190 rfl rfl (Nat.le_of_ble_eq_true rfl) ⟨Nat.le_of_ble_eq_true rfl, Nat.le_of_ble_eq_true rfl⟩ rfl rfl dL_law_766 rfl (fun z5 M6 P7 => ?_)
  obtain ⟨P7, F8⟩ := P7
  refine g_icmp_eq (n := 772) (tgt := 1992) X dL_law_769 (by decide) (by omega) (by omega) rfl (fun c9 => ?_) (fun c9 => by exfalso; omega)
  exact law_tail X hr hb (by omega) (by omega)
theorem dL_law_774 : decode code 774 = .ok (.aload_n 1, 1) := by decide +kernel
theorem dL_law_775 : decode code 775 = .ok (.aload_n 0, 1) := by decide +kernel
theorem dL_law_776 : decode code 776 = .ok (.iload_n 3, 1) := by decide +kernel
theorem dL_law_777 : decode code 777 = .ok (.iconst 1, 1) := by decide +kernel
theorem dL_law_778 : decode code 778 = .ok (.iadd, 1) := by decide +kernel
theorem dL_law_779 : decode code 779 = .ok (.iaload, 1) := by decide +kernel
theorem dL_law_780 : decode code 780 = .ok (.aload_n 0, 1) := by decide +kernel
theorem dL_law_781 : decode code 781 = .ok (.iload_n 3, 1) := by decide +kernel
theorem dL_law_782 : decode code 782 = .ok (.iconst 2, 1) := by decide +kernel
theorem dL_law_783 : decode code 783 = .ok (.iadd, 1) := by decide +kernel
theorem dL_law_784 : decode code 784 = .ok (.iaload, 1) := by decide +kernel
theorem dL_law_785 : decode code 785 = .ok (.invokevirtual 60, 3) := by decide +kernel
theorem kw_3_108 : (Jvm.Cond.methodLink "ParishUnionLaw" (60 : Nat) ({ cls := "ParishUnion", name := "taken", desc := "(II)I" } : Jvm.MethodName)) ∈ gT := gT_of (tb_3 _ (List.mem_of_getElem? (i := 108) rfl)) rfl
theorem kw_3_111 : (Jvm.Cond.code ({ cls := "ParishUnion", name := "taken", desc := "(II)I" } : Jvm.MethodName) prog_1_method_12_code (4 : Nat) (Option.some Jvm.ClassFile.FieldType.int)) ∈ gT := gT_of (tb_3 _ (List.mem_of_getElem? (i := 111) rfl)) rfl
theorem okX11_taken : gQok yX11_taken cX11_taken 4 (Option.some Jvm.ClassFile.FieldType.int) 2 := ⟨kw_3_111, kw_1_1, by decide +kernel, by decide +kernel, by decide +kernel⟩
theorem kw_3_109 : (Jvm.Cond.instanceMethod ({ cls := "ParishUnion", name := "taken", desc := "(II)I" } : Jvm.MethodName)) ∈ gT := gT_of (tb_3 _ (List.mem_of_getElem? (i := 109) rfl)) rfl
theorem kw_3_110 : (Jvm.Cond.selects "ParishUnion" ({ cls := "ParishUnion", name := "taken", desc := "(II)I" } : Jvm.MethodName) ({ cls := "ParishUnion", name := "taken", desc := "(II)I" } : Jvm.MethodName)) ∈ gT := gT_of (tb_3 _ (List.mem_of_getElem? (i := 110) rfl)) rfl
theorem dL_law_788 : decode code 788 = .ok (.aload_n 2, 1) := by decide +kernel
theorem dL_law_789 : decode code 789 = .ok (.aload_n 0, 1) := by decide +kernel
theorem dL_law_790 : decode code 790 = .ok (.iload_n 3, 1) := by decide +kernel
theorem dL_law_791 : decode code 791 = .ok (.iconst 1, 1) := by decide +kernel
theorem dL_law_792 : decode code 792 = .ok (.iadd, 1) := by decide +kernel
theorem dL_law_793 : decode code 793 = .ok (.iaload, 1) := by decide +kernel
theorem dL_law_794 : decode code 794 = .ok (.aload_n 0, 1) := by decide +kernel
theorem dL_law_795 : decode code 795 = .ok (.iload_n 3, 1) := by decide +kernel
theorem dL_law_796 : decode code 796 = .ok (.iconst 2, 1) := by decide +kernel
theorem dL_law_797 : decode code 797 = .ok (.iadd, 1) := by decide +kernel
theorem dL_law_798 : decode code 798 = .ok (.iaload, 1) := by decide +kernel
theorem dL_law_799 : decode code 799 = .ok (.invokevirtual 63, 3) := by decide +kernel
theorem kw_6_169 : (Jvm.Cond.methodLink "ParishUnionLaw" (63 : Nat) ({ cls := "ParishUnionModel", name := "taken", desc := "(II)I" } : Jvm.MethodName)) ∈ gT := gT_of (tb_6 _ (List.mem_of_getElem? (i := 169) rfl)) rfl
theorem kw_6_172 : (Jvm.Cond.code ({ cls := "ParishUnionModel", name := "taken", desc := "(II)I" } : Jvm.MethodName) prog_14_method_25_code (4 : Nat) (Option.some Jvm.ClassFile.FieldType.int)) ∈ gT := gT_of (tb_6 _ (List.mem_of_getElem? (i := 172) rfl)) rfl
theorem okX12_taken : gQok yX12_taken cX12_taken 4 (Option.some Jvm.ClassFile.FieldType.int) 2 := ⟨kw_6_172, kw_1_13, by decide +kernel, by decide +kernel, by decide +kernel⟩
theorem kw_6_170 : (Jvm.Cond.instanceMethod ({ cls := "ParishUnionModel", name := "taken", desc := "(II)I" } : Jvm.MethodName)) ∈ gT := gT_of (tb_6 _ (List.mem_of_getElem? (i := 170) rfl)) rfl
theorem kw_6_171 : (Jvm.Cond.selects "ParishUnionModel" ({ cls := "ParishUnionModel", name := "taken", desc := "(II)I" } : Jvm.MethodName) ({ cls := "ParishUnionModel", name := "taken", desc := "(II)I" } : Jvm.MethodName)) ∈ gT := gT_of (tb_6 _ (List.mem_of_getElem? (i := 171) rfl)) rfl
theorem dL_law_802 : decode code 802 = .ok (.if_icmp .eq 1190, 3) := by decide +kernel
set_option maxRecDepth 100000 in
set_option maxHeartbeats 4000000 in
theorem law_case_10 {p : Program} {e : Env} {s : State} {m : MethodId} {below : List Frame} {meth : Method} {c : Code} {l : Launch} {D : va_G} {cA : Nat → ClassId} {b : Nat} {xs : Nat → Int32} (X : gCx p s m #[Value.ref b] meth c s.heap.size D cA "ParishUnionLaw" code 4) (hr : meth.sig.returnType = ret) (hb : b < s.heap.size ∧ va_X b 7 xs s s.heap) {M : gM} (hFr : gFr M) : G p l e room_1 s m #[Value.ref b] below meth c s.heap.size D cA 4 (lw_Z below #[Value.ref b] s) 206 87467 M 206 774 [(3, gJ 0), (2, gA s.heap.size 190), (1, gA s.heap.size 0), (0, .ref b)] [] := by
  have rents := gFr_rents hFr
  have way := gFr_way hFr
  have beds := gFr_beds hFr
  have frost0 := gFr_frost0 hFr
  have rows0 := gFr_rows0 hFr
  have rooms0 := gFr_rooms0 hFr
  have tape0 := gFr_tape0 hFr
  have car0 := gFr_car0 hFr
  have hS := gFr_hS hFr
  obtain ⟨v0, e0, r0⟩ : ∃ z : Int, xs 0 = Int32.ofInt z ∧ -2147483648 ≤ z ∧ z ≤ 2147483647 := ⟨_, gi_of _, gi_rg _⟩
  obtain ⟨v1, e1, r1⟩ : ∃ z : Int, xs 1 = Int32.ofInt z ∧ -2147483648 ≤ z ∧ z ≤ 2147483647 := ⟨_, gi_of _, gi_rg _⟩
  obtain ⟨v2, e2, r2⟩ : ∃ z : Int, xs 2 = Int32.ofInt z ∧ -2147483648 ≤ z ∧ z ≤ 2147483647 := ⟨_, gi_of _, gi_rg _⟩
  obtain ⟨v3, e3, r3⟩ : ∃ z : Int, xs 3 = Int32.ofInt z ∧ -2147483648 ≤ z ∧ z ≤ 2147483647 := ⟨_, gi_of _, gi_rg _⟩
  obtain ⟨v4, e4, r4⟩ : ∃ z : Int, xs 4 = Int32.ofInt z ∧ -2147483648 ≤ z ∧ z ≤ 2147483647 := ⟨_, gi_of _, gi_rg _⟩
  obtain ⟨v5, e5, r5⟩ : ∃ z : Int, xs 5 = Int32.ofInt z ∧ -2147483648 ≤ z ∧ z ≤ 2147483647 := ⟨_, gi_of _, gi_rg _⟩
  obtain ⟨v6, e6, r6⟩ : ∃ z : Int, xs 6 = Int32.ofInt z ∧ -2147483648 ≤ z ∧ z ≤ 2147483647 := ⟨_, gi_of _, gi_rg _⟩
  refine g_aload_n (n := 775) X 2 dL_law_774 rfl rfl rfl ?_
  refine g_aload_n (n := 776) X 3 dL_law_775 rfl rfl rfl ?_
  refine g_iload_n (n := 777) X 0 dL_law_776 rfl rfl rfl ?_
  refine g_iconst (n := 778) X dL_law_777 rfl ?_
  refine g_iadd (n := 779) (z := 1) X dL_law_778 rfl rfl ?_
  refine g_scrld (n := 780) (z := v1) X hb (by omega) (by omega) (by omega) dL_law_779 rfl e1 ?_
  refine g_aload_n (n := 781) X 3 dL_law_780 rfl rfl rfl ?_
  refine g_iload_n (n := 782) X 0 dL_law_781 rfl rfl rfl ?_
  refine g_iconst (n := 783) X dL_law_782 rfl ?_
  refine g_iadd (n := 784) (z := 2) X dL_law_783 rfl rfl ?_
  refine g_scrld (n := 785) (z := v2) X hb (by omega) (by omega) (by omega) dL_law_784 rfl e2 ?_
  refine g_callVi (n := 788) (As := [gJ v1, gJ v2]) (rest := []) (cs1 := 206) (ss1 := 87467) X (c_X11_taken v1 v2 (by omega) (by omega) (by omega) (gFr_0_0 hFr) (gFr_1_11 hFr)) okX11_taken kw_3_108 ⟨kw_3_109, kw_3_110⟩ ⟨rfl, rfl⟩ ⟨Nat.le_of_ble_eq_true rfl, Nat.le_of_ble_eq_true rfl⟩ rfl (by omega) (by omega) lay_0 rfl rfl (Nat.le_of_ble_eq_true rfl) ⟨Nat.le_of_ble_eq_true rfl, Nat.le_of_ble_eq_true rfl⟩ rfl rfl dL_law_785 rfl (fun z1 M2 P3 => ?_)
  obtain ⟨P3, F4⟩ := P3
  refine g_aload_n (n := 789) X 1 dL_law_788 rfl rfl rfl ?_
  refine g_aload_n (n := 790) X 3 dL_law_789 rfl rfl rfl ?_
  refine g_iload_n (n := 791) X 0 dL_law_790 rfl rfl rfl ?_
  refine g_iconst (n := 792) X dL_law_791 rfl ?_
  refine g_iadd (n := 793) (z := 1) X dL_law_792 rfl rfl ?_
  refine g_scrld (n := 794) (z := v1) X hb (by omega) (by omega) (by omega) dL_law_793 rfl e1 ?_
  refine g_aload_n (n := 795) X 3 dL_law_794 rfl rfl rfl ?_
  refine g_iload_n (n := 796) X 0 dL_law_795 rfl rfl rfl ?_
  refine g_iconst (n := 797) X dL_law_796 rfl ?_
  refine g_iadd (n := 798) (z := 2) X dL_law_797 rfl rfl ?_
  refine g_scrld (n := 799) (z := v2) X hb (by omega) (by omega) (by omega) dL_law_798 rfl e2 ?_
  refine g_callVi (n := 802) (As := [gJ v1, gJ v2]) (rest := [gJ z1]) (cs1 := 206) (ss1 := 87467) X (c_X12_taken v1 v2 (by omega) (by omega) (by omega) ((congrFun (F4 190) _).trans (gFr_190_1 hFr)) ((congrFun (F4 191) _).trans ((hS 2 (by omega) (by omega)).trans (by decide)))) okX12_taken kw_6_169 ⟨kw_6_170, kw_6_171⟩ ⟨rfl, rfl⟩ ⟨Nat.le_of_ble_eq_true rfl, Nat.le_of_ble_eq_true rfl⟩ rfl (by omega) (by omega) lay_190 rfl rfl (Nat.le_of_ble_eq_true rfl) ⟨Nat.le_of_ble_eq_true rfl, Nat.le_of_ble_eq_true rfl⟩ rfl rfl dL_law_799 rfl (fun z5 M6 P7 => ?_)
  obtain ⟨P7, F8⟩ := P7
  refine g_icmp_eq (n := 805) (tgt := 1992) X dL_law_802 (by decide) (by omega) (by omega) rfl (fun c9 => ?_) (fun c9 => by exfalso; omega)
  exact law_tail X hr hb (by omega) (by omega)
theorem dL_law_807 : decode code 807 = .ok (.aload_n 1, 1) := by decide +kernel
theorem dL_law_808 : decode code 808 = .ok (.aload_n 0, 1) := by decide +kernel
theorem dL_law_809 : decode code 809 = .ok (.iload_n 3, 1) := by decide +kernel
theorem dL_law_810 : decode code 810 = .ok (.iconst 1, 1) := by decide +kernel
theorem dL_law_811 : decode code 811 = .ok (.iadd, 1) := by decide +kernel
theorem dL_law_812 : decode code 812 = .ok (.iaload, 1) := by decide +kernel
theorem dL_law_813 : decode code 813 = .ok (.aload_n 0, 1) := by decide +kernel
theorem dL_law_814 : decode code 814 = .ok (.iload_n 3, 1) := by decide +kernel
theorem dL_law_815 : decode code 815 = .ok (.iconst 2, 1) := by decide +kernel
theorem dL_law_816 : decode code 816 = .ok (.iadd, 1) := by decide +kernel
theorem dL_law_817 : decode code 817 = .ok (.iaload, 1) := by decide +kernel
theorem dL_law_818 : decode code 818 = .ok (.aload_n 0, 1) := by decide +kernel
theorem dL_law_819 : decode code 819 = .ok (.iload_n 3, 1) := by decide +kernel
theorem dL_law_820 : decode code 820 = .ok (.iconst 3, 1) := by decide +kernel
theorem dL_law_821 : decode code 821 = .ok (.iadd, 1) := by decide +kernel
theorem dL_law_822 : decode code 822 = .ok (.iaload, 1) := by decide +kernel
theorem dL_law_823 : decode code 823 = .ok (.aload_n 0, 1) := by decide +kernel
theorem dL_law_824 : decode code 824 = .ok (.iload_n 3, 1) := by decide +kernel
theorem dL_law_825 : decode code 825 = .ok (.iconst 4, 1) := by decide +kernel
theorem dL_law_826 : decode code 826 = .ok (.iadd, 1) := by decide +kernel
theorem dL_law_827 : decode code 827 = .ok (.iaload, 1) := by decide +kernel
theorem dL_law_828 : decode code 828 = .ok (.invokevirtual 64, 3) := by decide +kernel
theorem kw_3_122 : (Jvm.Cond.methodLink "ParishUnionLaw" (64 : Nat) ({ cls := "ParishUnion", name := "settle", desc := "(IIII)I" } : Jvm.MethodName)) ∈ gT := gT_of (tb_3 _ (List.mem_of_getElem? (i := 122) rfl)) rfl
theorem kw_3_125 : (Jvm.Cond.code ({ cls := "ParishUnion", name := "settle", desc := "(IIII)I" } : Jvm.MethodName) prog_1_method_13_code (5 : Nat) (Option.some Jvm.ClassFile.FieldType.int)) ∈ gT := gT_of (tb_3 _ (List.mem_of_getElem? (i := 125) rfl)) rfl
theorem okX11_settle : gQok yX11_settle cX11_settle 5 (Option.some Jvm.ClassFile.FieldType.int) 4 := ⟨kw_3_125, kw_1_1, by decide +kernel, by decide +kernel, by decide +kernel⟩
theorem kw_3_123 : (Jvm.Cond.instanceMethod ({ cls := "ParishUnion", name := "settle", desc := "(IIII)I" } : Jvm.MethodName)) ∈ gT := gT_of (tb_3 _ (List.mem_of_getElem? (i := 123) rfl)) rfl
theorem kw_3_124 : (Jvm.Cond.selects "ParishUnion" ({ cls := "ParishUnion", name := "settle", desc := "(IIII)I" } : Jvm.MethodName) ({ cls := "ParishUnion", name := "settle", desc := "(IIII)I" } : Jvm.MethodName)) ∈ gT := gT_of (tb_3 _ (List.mem_of_getElem? (i := 124) rfl)) rfl
theorem dL_law_831 : decode code 831 = .ok (.aload_n 2, 1) := by decide +kernel
theorem dL_law_832 : decode code 832 = .ok (.aload_n 0, 1) := by decide +kernel
theorem dL_law_833 : decode code 833 = .ok (.iload_n 3, 1) := by decide +kernel
theorem dL_law_834 : decode code 834 = .ok (.iconst 1, 1) := by decide +kernel
theorem dL_law_835 : decode code 835 = .ok (.iadd, 1) := by decide +kernel
theorem dL_law_836 : decode code 836 = .ok (.iaload, 1) := by decide +kernel
theorem dL_law_837 : decode code 837 = .ok (.aload_n 0, 1) := by decide +kernel
theorem dL_law_838 : decode code 838 = .ok (.iload_n 3, 1) := by decide +kernel
theorem dL_law_839 : decode code 839 = .ok (.iconst 2, 1) := by decide +kernel
theorem dL_law_840 : decode code 840 = .ok (.iadd, 1) := by decide +kernel
theorem dL_law_841 : decode code 841 = .ok (.iaload, 1) := by decide +kernel
theorem dL_law_842 : decode code 842 = .ok (.aload_n 0, 1) := by decide +kernel
theorem dL_law_843 : decode code 843 = .ok (.iload_n 3, 1) := by decide +kernel
theorem dL_law_844 : decode code 844 = .ok (.iconst 3, 1) := by decide +kernel
theorem dL_law_845 : decode code 845 = .ok (.iadd, 1) := by decide +kernel
theorem dL_law_846 : decode code 846 = .ok (.iaload, 1) := by decide +kernel
theorem dL_law_847 : decode code 847 = .ok (.aload_n 0, 1) := by decide +kernel
theorem dL_law_848 : decode code 848 = .ok (.iload_n 3, 1) := by decide +kernel
theorem dL_law_849 : decode code 849 = .ok (.iconst 4, 1) := by decide +kernel
theorem dL_law_850 : decode code 850 = .ok (.iadd, 1) := by decide +kernel
theorem dL_law_851 : decode code 851 = .ok (.iaload, 1) := by decide +kernel
theorem dL_law_852 : decode code 852 = .ok (.invokevirtual 68, 3) := by decide +kernel
theorem kw_6_177 : (Jvm.Cond.methodLink "ParishUnionLaw" (68 : Nat) ({ cls := "ParishUnionModel", name := "settle", desc := "(IIII)I" } : Jvm.MethodName)) ∈ gT := gT_of (tb_6 _ (List.mem_of_getElem? (i := 177) rfl)) rfl
theorem kw_6_180 : (Jvm.Cond.code ({ cls := "ParishUnionModel", name := "settle", desc := "(IIII)I" } : Jvm.MethodName) prog_14_method_30_code (5 : Nat) (Option.some Jvm.ClassFile.FieldType.int)) ∈ gT := gT_of (tb_6 _ (List.mem_of_getElem? (i := 180) rfl)) rfl
theorem okX12_settle : gQok yX12_settle cX12_settle 5 (Option.some Jvm.ClassFile.FieldType.int) 4 := ⟨kw_6_180, kw_1_13, by decide +kernel, by decide +kernel, by decide +kernel⟩
theorem kw_6_178 : (Jvm.Cond.instanceMethod ({ cls := "ParishUnionModel", name := "settle", desc := "(IIII)I" } : Jvm.MethodName)) ∈ gT := gT_of (tb_6 _ (List.mem_of_getElem? (i := 178) rfl)) rfl
theorem kw_6_179 : (Jvm.Cond.selects "ParishUnionModel" ({ cls := "ParishUnionModel", name := "settle", desc := "(IIII)I" } : Jvm.MethodName) ({ cls := "ParishUnionModel", name := "settle", desc := "(IIII)I" } : Jvm.MethodName)) ∈ gT := gT_of (tb_6 _ (List.mem_of_getElem? (i := 179) rfl)) rfl
theorem dL_law_855 : decode code 855 = .ok (.if_icmp .eq 1137, 3) := by decide +kernel
set_option maxRecDepth 100000 in
set_option maxHeartbeats 4000000 in
theorem law_case_11 {p : Program} {e : Env} {s : State} {m : MethodId} {below : List Frame} {meth : Method} {c : Code} {l : Launch} {D : va_G} {cA : Nat → ClassId} {b : Nat} {xs : Nat → Int32} (X : gCx p s m #[Value.ref b] meth c s.heap.size D cA "ParishUnionLaw" code 4) (hr : meth.sig.returnType = ret) (hb : b < s.heap.size ∧ va_X b 7 xs s s.heap) {M : gM} (hFr : gFr M) : G p l e room_1 s m #[Value.ref b] below meth c s.heap.size D cA 4 (lw_Z below #[Value.ref b] s) 206 87467 M 206 807 [(3, gJ 0), (2, gA s.heap.size 190), (1, gA s.heap.size 0), (0, .ref b)] [] := by
  have rents := gFr_rents hFr
  have way := gFr_way hFr
  have beds := gFr_beds hFr
  have frost0 := gFr_frost0 hFr
  have rows0 := gFr_rows0 hFr
  have rooms0 := gFr_rooms0 hFr
  have tape0 := gFr_tape0 hFr
  have car0 := gFr_car0 hFr
  have hS := gFr_hS hFr
  obtain ⟨v0, e0, r0⟩ : ∃ z : Int, xs 0 = Int32.ofInt z ∧ -2147483648 ≤ z ∧ z ≤ 2147483647 := ⟨_, gi_of _, gi_rg _⟩
  obtain ⟨v1, e1, r1⟩ : ∃ z : Int, xs 1 = Int32.ofInt z ∧ -2147483648 ≤ z ∧ z ≤ 2147483647 := ⟨_, gi_of _, gi_rg _⟩
  obtain ⟨v2, e2, r2⟩ : ∃ z : Int, xs 2 = Int32.ofInt z ∧ -2147483648 ≤ z ∧ z ≤ 2147483647 := ⟨_, gi_of _, gi_rg _⟩
  obtain ⟨v3, e3, r3⟩ : ∃ z : Int, xs 3 = Int32.ofInt z ∧ -2147483648 ≤ z ∧ z ≤ 2147483647 := ⟨_, gi_of _, gi_rg _⟩
  obtain ⟨v4, e4, r4⟩ : ∃ z : Int, xs 4 = Int32.ofInt z ∧ -2147483648 ≤ z ∧ z ≤ 2147483647 := ⟨_, gi_of _, gi_rg _⟩
  obtain ⟨v5, e5, r5⟩ : ∃ z : Int, xs 5 = Int32.ofInt z ∧ -2147483648 ≤ z ∧ z ≤ 2147483647 := ⟨_, gi_of _, gi_rg _⟩
  obtain ⟨v6, e6, r6⟩ : ∃ z : Int, xs 6 = Int32.ofInt z ∧ -2147483648 ≤ z ∧ z ≤ 2147483647 := ⟨_, gi_of _, gi_rg _⟩
  refine g_aload_n (n := 808) X 2 dL_law_807 rfl rfl rfl ?_
  refine g_aload_n (n := 809) X 3 dL_law_808 rfl rfl rfl ?_
  refine g_iload_n (n := 810) X 0 dL_law_809 rfl rfl rfl ?_
  refine g_iconst (n := 811) X dL_law_810 rfl ?_
  refine g_iadd (n := 812) (z := 1) X dL_law_811 rfl rfl ?_
  refine g_scrld (n := 813) (z := v1) X hb (by omega) (by omega) (by omega) dL_law_812 rfl e1 ?_
  refine g_aload_n (n := 814) X 3 dL_law_813 rfl rfl rfl ?_
  refine g_iload_n (n := 815) X 0 dL_law_814 rfl rfl rfl ?_
  refine g_iconst (n := 816) X dL_law_815 rfl ?_
  refine g_iadd (n := 817) (z := 2) X dL_law_816 rfl rfl ?_
  refine g_scrld (n := 818) (z := v2) X hb (by omega) (by omega) (by omega) dL_law_817 rfl e2 ?_
  refine g_aload_n (n := 819) X 3 dL_law_818 rfl rfl rfl ?_
  refine g_iload_n (n := 820) X 0 dL_law_819 rfl rfl rfl ?_
  refine g_iconst (n := 821) X dL_law_820 rfl ?_
  refine g_iadd (n := 822) (z := 3) X dL_law_821 rfl rfl ?_
  refine g_scrld (n := 823) (z := v3) X hb (by omega) (by omega) (by omega) dL_law_822 rfl e3 ?_
  refine g_aload_n (n := 824) X 3 dL_law_823 rfl rfl rfl ?_
  refine g_iload_n (n := 825) X 0 dL_law_824 rfl rfl rfl ?_
  refine g_iconst (n := 826) X dL_law_825 rfl ?_
  refine g_iadd (n := 827) (z := 4) X dL_law_826 rfl rfl ?_
  refine g_scrld (n := 828) (z := v4) X hb (by omega) (by omega) (by omega) dL_law_827 rfl e4 ?_
  refine g_callVi (n := 831) (As := [gJ v1, gJ v2, gJ v3, gJ v4]) (rest := []) (cs1 := 206) (ss1 := 87467) X (c_X11_settle v1 v2 v3 v4 (by omega) (by omega) (by omega) (by omega) (by omega) (gFr_0_0 hFr) (gFr_1_10 hFr)) okX11_settle kw_3_122 ⟨kw_3_123, kw_3_124⟩ ⟨rfl, rfl⟩ ⟨Nat.le_of_ble_eq_true rfl, Nat.le_of_ble_eq_true rfl⟩ rfl (by omega) (by omega) lay_0 rfl rfl (Nat.le_of_ble_eq_true rfl) ⟨Nat.le_of_ble_eq_true rfl, Nat.le_of_ble_eq_true rfl⟩ rfl rfl dL_law_828 rfl (fun z1 M2 P3 => ?_)
  obtain ⟨P3, F4⟩ := P3
  refine g_aload_n (n := 832) X 1 dL_law_831 rfl rfl rfl ?_
  refine g_aload_n (n := 833) X 3 dL_law_832 rfl rfl rfl ?_
  refine g_iload_n (n := 834) X 0 dL_law_833 rfl rfl rfl ?_
  refine g_iconst (n := 835) X dL_law_834 rfl ?_
  refine g_iadd (n := 836) (z := 1) X dL_law_835 rfl rfl ?_
  refine g_scrld (n := 837) (z := v1) X hb (by omega) (by omega) (by omega) dL_law_836 rfl e1 ?_
  refine g_aload_n (n := 838) X 3 dL_law_837 rfl rfl rfl ?_
  refine g_iload_n (n := 839) X 0 dL_law_838 rfl rfl rfl ?_
  refine g_iconst (n := 840) X dL_law_839 rfl ?_
  refine g_iadd (n := 841) (z := 2) X dL_law_840 rfl rfl ?_
  refine g_scrld (n := 842) (z := v2) X hb (by omega) (by omega) (by omega) dL_law_841 rfl e2 ?_
  refine g_aload_n (n := 843) X 3 dL_law_842 rfl rfl rfl ?_
  refine g_iload_n (n := 844) X 0 dL_law_843 rfl rfl rfl ?_
  refine g_iconst (n := 845) X dL_law_844 rfl ?_
  refine g_iadd (n := 846) (z := 3) X dL_law_845 rfl rfl ?_
  refine g_scrld (n := 847) (z := v3) X hb (by omega) (by omega) (by omega) dL_law_846 rfl e3 ?_
  refine g_aload_n (n := 848) X 3 dL_law_847 rfl rfl rfl ?_
  refine g_iload_n (n := 849) X 0 dL_law_848 rfl rfl rfl ?_
  refine g_iconst (n := 850) X dL_law_849 rfl ?_
  refine g_iadd (n := 851) (z := 4) X dL_law_850 rfl rfl ?_
  refine g_scrld (n := 852) (z := v4) X hb (by omega) (by omega) (by omega) dL_law_851 rfl e4 ?_
  refine g_callVi (n := 855) (As := [gJ v1, gJ v2, gJ v3, gJ v4]) (rest := [gJ z1]) (cs1 := 206) (ss1 := 87467) X (c_X12_settle v1 v2 v3 v4 (by omega) (by omega) (by omega) (by omega) (by omega) ((congrFun (F4 190) _).trans (gFr_190_1 hFr)) ((congrFun (F4 191) _).trans ((hS 1 (by omega) (by omega)).trans (by decide)))) okX12_settle kw_6_177 ⟨kw_6_178, kw_6_179⟩ ⟨rfl, rfl⟩ ⟨Nat.le_of_ble_eq_true rfl, Nat.le_of_ble_eq_true rfl⟩ rfl (by omega) (by omega) lay_190 rfl rfl (Nat.le_of_ble_eq_true rfl) ⟨Nat.le_of_ble_eq_true rfl, Nat.le_of_ble_eq_true rfl⟩ rfl rfl dL_law_852 rfl (fun z5 M6 P7 => ?_)
  obtain ⟨P7, F8⟩ := P7
  refine g_icmp_eq (n := 858) (tgt := 1992) X dL_law_855 (by decide) (by omega) (by omega) rfl (fun c9 => ?_) (fun c9 => by exfalso; omega)
  exact law_tail X hr hb (by omega) (by omega)
