theorem dL_law_692 : decode code 692 = .ok (.aload_n 1, 1) := dc_43 (by decide +kernel)
theorem dL_law_693 : decode code 693 = .ok (.aload_n 0, 1) := dc_42 (by decide +kernel)
theorem dL_law_694 : decode code 694 = .ok (.iload_n 3, 1) := dc_29 (by decide +kernel)
theorem dL_law_695 : decode code 695 = .ok (.iconst 1, 1) := dc_4 (by decide +kernel)
theorem dL_law_696 : decode code 696 = .ok (.iadd, 1) := dc_96 (by decide +kernel)
theorem dL_law_697 : decode code 697 = .ok (.iaload, 1) := dc_46 (by decide +kernel)
theorem dL_law_698 : decode code 698 = .ok (.aload_n 0, 1) := dc_42 (by decide +kernel)
theorem dL_law_699 : decode code 699 = .ok (.iload_n 3, 1) := dc_29 (by decide +kernel)
theorem dL_law_700 : decode code 700 = .ok (.iconst 2, 1) := dc_5 (by decide +kernel)
theorem dL_law_701 : decode code 701 = .ok (.iadd, 1) := dc_96 (by decide +kernel)
theorem dL_law_702 : decode code 702 = .ok (.iaload, 1) := dc_46 (by decide +kernel)
theorem dL_law_703 : decode code 703 = .ok (.ifCond .eq 7, 3) := dc_153 0 7 7 (by decide +kernel)
theorem dL_law_710 : decode code 710 = .ok (.iconst 0, 1) := dc_3 (by decide +kernel)
theorem dL_law_711 : decode code 711 = .ok (.invokevirtual 51, 3) := dc_182 0 51 (by decide +kernel)
theorem kw_3_92 : (Jvm.Cond.methodLink "ParishUnionLaw" (51 : Nat) ({ cls := "ParishUnion", name := "proof", desc := "(IZ)I" } : Jvm.MethodName)) ∈ gT := gT_of (tb_3 _ (List.mem_of_getElem? (i := 92) rfl)) rfl
theorem kw_3_95 : (Jvm.Cond.code ({ cls := "ParishUnion", name := "proof", desc := "(IZ)I" } : Jvm.MethodName) prog_1_method_10_code (4 : Nat) (Option.some Jvm.ClassFile.FieldType.int)) ∈ gT := gT_of (tb_3 _ (List.mem_of_getElem? (i := 95) rfl)) rfl
theorem okX11_proof : gQok yX11_proof cX11_proof 4 (Option.some Jvm.ClassFile.FieldType.int) 2 := ⟨kw_3_95, kw_1_1, by decide +kernel, by decide +kernel, by decide +kernel⟩
theorem kw_3_93 : (Jvm.Cond.instanceMethod ({ cls := "ParishUnion", name := "proof", desc := "(IZ)I" } : Jvm.MethodName)) ∈ gT := gT_of (tb_3 _ (List.mem_of_getElem? (i := 93) rfl)) rfl
theorem kw_3_94 : (Jvm.Cond.selects "ParishUnion" ({ cls := "ParishUnion", name := "proof", desc := "(IZ)I" } : Jvm.MethodName) ({ cls := "ParishUnion", name := "proof", desc := "(IZ)I" } : Jvm.MethodName)) ∈ gT := gT_of (tb_3 _ (List.mem_of_getElem? (i := 94) rfl)) rfl
theorem dL_law_714 : decode code 714 = .ok (.aload_n 2, 1) := dc_44 (by decide +kernel)
theorem dL_law_715 : decode code 715 = .ok (.aload_n 0, 1) := dc_42 (by decide +kernel)
theorem dL_law_716 : decode code 716 = .ok (.iload_n 3, 1) := dc_29 (by decide +kernel)
theorem dL_law_717 : decode code 717 = .ok (.iconst 1, 1) := dc_4 (by decide +kernel)
theorem dL_law_718 : decode code 718 = .ok (.iadd, 1) := dc_96 (by decide +kernel)
theorem dL_law_719 : decode code 719 = .ok (.iaload, 1) := dc_46 (by decide +kernel)
theorem dL_law_720 : decode code 720 = .ok (.aload_n 0, 1) := dc_42 (by decide +kernel)
theorem dL_law_721 : decode code 721 = .ok (.iload_n 3, 1) := dc_29 (by decide +kernel)
theorem dL_law_722 : decode code 722 = .ok (.iconst 2, 1) := dc_5 (by decide +kernel)
theorem dL_law_723 : decode code 723 = .ok (.iadd, 1) := dc_96 (by decide +kernel)
theorem dL_law_724 : decode code 724 = .ok (.iaload, 1) := dc_46 (by decide +kernel)
theorem dL_law_725 : decode code 725 = .ok (.ifCond .eq 7, 3) := dc_153 0 7 7 (by decide +kernel)
theorem dL_law_732 : decode code 732 = .ok (.iconst 0, 1) := dc_3 (by decide +kernel)
theorem dL_law_733 : decode code 733 = .ok (.invokevirtual 55, 3) := dc_182 0 55 (by decide +kernel)
theorem kw_6_157 : (Jvm.Cond.methodLink "ParishUnionLaw" (55 : Nat) ({ cls := "ParishUnionModel", name := "proof", desc := "(IZ)I" } : Jvm.MethodName)) ∈ gT := gT_of (tb_6 _ (List.mem_of_getElem? (i := 157) rfl)) rfl
theorem kw_6_160 : (Jvm.Cond.code ({ cls := "ParishUnionModel", name := "proof", desc := "(IZ)I" } : Jvm.MethodName) prog_14_method_22_code (5 : Nat) (Option.some Jvm.ClassFile.FieldType.int)) ∈ gT := gT_of (tb_6 _ (List.mem_of_getElem? (i := 160) rfl)) rfl
theorem okX12_proof : gQok yX12_proof cX12_proof 5 (Option.some Jvm.ClassFile.FieldType.int) 2 := ⟨kw_6_160, kw_1_13, by decide +kernel, by decide +kernel, by decide +kernel⟩
theorem kw_6_158 : (Jvm.Cond.instanceMethod ({ cls := "ParishUnionModel", name := "proof", desc := "(IZ)I" } : Jvm.MethodName)) ∈ gT := gT_of (tb_6 _ (List.mem_of_getElem? (i := 158) rfl)) rfl
theorem kw_6_159 : (Jvm.Cond.selects "ParishUnionModel" ({ cls := "ParishUnionModel", name := "proof", desc := "(IZ)I" } : Jvm.MethodName) ({ cls := "ParishUnionModel", name := "proof", desc := "(IZ)I" } : Jvm.MethodName)) ∈ gT := gT_of (tb_6 _ (List.mem_of_getElem? (i := 159) rfl)) rfl
theorem dL_law_736 : decode code 736 = .ok (.if_icmp .eq 1256, 3) := dc_159 4 232 1256 (by decide +kernel)
theorem dL_law_706 : decode code 706 = .ok (.iconst 1, 1) := dc_4 (by decide +kernel)
theorem dL_law_707 : decode code 707 = .ok (.goto 4, 3) := dc_167 0 4 4 (by decide +kernel)
theorem dL_law_728 : decode code 728 = .ok (.iconst 1, 1) := dc_4 (by decide +kernel)
theorem dL_law_729 : decode code 729 = .ok (.goto 4, 3) := dc_167 0 4 4 (by decide +kernel)
set_option maxRecDepth 100000 in
set_option maxHeartbeats 4000000 in
theorem law_case_8 {p : Program} {e : Env} {s : State} {m : MethodId} {below : List Frame} {meth : Method} {cd : Code} {l : Launch} {D : va_G} {cA : Nat → ClassId} {b Ln : Nat} {xs : Nat → Int32} (X : gCx p s m #[Value.ref b] meth cd s.heap.size D cA "ParishUnionLaw" code 4) (hr : meth.sig.returnType = ret) (hb : b < s.heap.size ∧ va_X b Ln xs s s.heap) (hLn : Ln ≤ 3584) {sz cs ss : Nat} {M : gM} (L : lwI sz cs ss M) (i : Int) (hi : 0 ≤ i ∧ i + 7 ≤ (Ln : Int)) (kk : ∀ (sz cs ss : Nat) (M1 : gM), lwI sz cs ss M1 → G p l e room_1 s m #[Value.ref b] below meth cd s.heap.size D cA 4 (lw_Z below #[Value.ref b] s) cs ss M1 sz 1992 [(3, gJ i), (2, gA s.heap.size 190), (1, gA s.heap.size 0), (0, .ref b)] []) : G p l e room_1 s m #[Value.ref b] below meth cd s.heap.size D cA 4 (lw_Z below #[Value.ref b] s) cs ss M sz 692 [(3, gJ i), (2, gA s.heap.size 190), (1, gA s.heap.size 0), (0, .ref b)] [] := by
  obtain ⟨hsz, I, C, W, LA, LB, LK, LR⟩ := L
  have hN := gN_of hsz I
  obtain ⟨ac, hac, rac⟩ : ∃ v : Int, M 1 13 = v ∧ (0 ≤ v ∧ v ≤ 10) := by
    obtain ⟨v, hv, rv⟩ := gRd I (by decide) (gsz hsz (by decide)) rc_1_13.1
    exact ⟨v, hv, by omega⟩
  obtain ⟨ab, hab, rab⟩ : ∃ v : Int, M 191 4 = v ∧ (0 ≤ v ∧ v ≤ 10) := by
    obtain ⟨v, hv, rv⟩ := gRd I (by decide) (gsz hsz (by decide)) (rs_NA (k := 4) (by omega)).1
    exact ⟨v, hv, by omega⟩
  have hRm : cs + 0 ≤ room_1.cells ∧ ss + 0 ≤ room_1.slots := by
    show cs + 0 ≤ 349274 ∧ ss + 0 ≤ 8054428
    have := lwK.room LK
    omega
  obtain ⟨u1, eu1, ru1⟩ : ∃ z : Int, xs (i + 1).toNat = Int32.ofInt z ∧ (-2147483648 ≤ z ∧ z ≤ 2147483647) := ⟨_, gi_of _, gi_rg _⟩
  obtain ⟨u2, eu2, ru2⟩ : ∃ z : Int, xs (i + 2).toNat = Int32.ofInt z ∧ (-2147483648 ≤ z ∧ z ≤ 2147483647) := ⟨_, gi_of _, gi_rg _⟩
  obtain ⟨u3, eu3, ru3⟩ : ∃ z : Int, xs (i + 3).toNat = Int32.ofInt z ∧ (-2147483648 ≤ z ∧ z ≤ 2147483647) := ⟨_, gi_of _, gi_rg _⟩
  obtain ⟨u4, eu4, ru4⟩ : ∃ z : Int, xs (i + 4).toNat = Int32.ofInt z ∧ (-2147483648 ≤ z ∧ z ≤ 2147483647) := ⟨_, gi_of _, gi_rg _⟩
  obtain ⟨u5, eu5, ru5⟩ : ∃ z : Int, xs (i + 5).toNat = Int32.ofInt z ∧ (-2147483648 ≤ z ∧ z ≤ 2147483647) := ⟨_, gi_of _, gi_rg _⟩
  obtain ⟨u6, eu6, ru6⟩ : ∃ z : Int, xs (i + 6).toNat = Int32.ofInt z ∧ (-2147483648 ≤ z ∧ z ≤ 2147483647) := ⟨_, gi_of _, gi_rg _⟩
  refine g_aload_n (n := 693) X 2 dL_law_692 rfl rfl rfl ?_
  refine g_aload_n (n := 694) X 3 dL_law_693 rfl rfl rfl ?_
  refine g_iload_n (n := 695) X 0 dL_law_694 rfl rfl rfl ?_
  refine g_iconst (n := 696) X dL_law_695 rfl ?_
  refine g_iadd (n := 697) (z := i + 1) X dL_law_696 (by omega) rfl ?_
  refine g_scrld (n := 698) (z := u1) X hb (by omega) (by omega) (by omega) dL_law_697 rfl eu1 ?_
  refine g_aload_n (n := 699) X 3 dL_law_698 rfl rfl rfl ?_
  refine g_iload_n (n := 700) X 0 dL_law_699 rfl rfl rfl ?_
  refine g_iconst (n := 701) X dL_law_700 rfl ?_
  refine g_iadd (n := 702) (z := i + 2) X dL_law_701 (by omega) rfl ?_
  refine g_scrld (n := 703) (z := u2) X hb (by omega) (by omega) (by omega) dL_law_702 rfl eu2 ?_
  refine g_if_eq (n := 706) (tgt := 710) X dL_law_703 (by decide) (by omega) rfl (fun c1 => ?_) (fun c1 => ?_)
  · refine g_iconst (n := 711) X dL_law_710 rfl ?_
    refine g_callVi (n := 714) (As := [gJ u1, gJ 0]) (rest := []) (cs1 := cs) (ss1 := ss) X (s_X11_proof u1 (by omega) 0 (by omega) hsz I C ) okX11_proof kw_3_92 ⟨kw_3_93, kw_3_94⟩ ⟨rfl, rfl⟩ ⟨Nat.le_of_ble_eq_true rfl, Nat.le_of_ble_eq_true rfl⟩ rfl (by decide) (gsz hsz (by decide)) lay_0 rfl rfl (Nat.le_of_ble_eq_true rfl) hRm rfl rfl dL_law_711 rfl (fun v2 M3 P4 => ?_)
    obtain ⟨rv2, IM3, CM3, FM3, xM3⟩ := P4
    refine g_aload_n (n := 715) X 1 dL_law_714 rfl rfl rfl ?_
    refine g_aload_n (n := 716) X 3 dL_law_715 rfl rfl rfl ?_
    refine g_iload_n (n := 717) X 0 dL_law_716 rfl rfl rfl ?_
    refine g_iconst (n := 718) X dL_law_717 rfl ?_
    refine g_iadd (n := 719) (z := i + 1) X dL_law_718 (by omega) rfl ?_
    refine g_scrld (n := 720) (z := u1) X hb (by omega) (by omega) (by omega) dL_law_719 rfl eu1 ?_
    refine g_aload_n (n := 721) X 3 dL_law_720 rfl rfl rfl ?_
    refine g_iload_n (n := 722) X 0 dL_law_721 rfl rfl rfl ?_
    refine g_iconst (n := 723) X dL_law_722 rfl ?_
    refine g_iadd (n := 724) (z := i + 2) X dL_law_723 (by omega) rfl ?_
    refine g_scrld (n := 725) (z := u2) X hb (by omega) (by omega) (by omega) dL_law_724 rfl eu2 ?_
    refine g_if_eq (n := 728) (tgt := 732) X dL_law_725 (by decide) (by omega) rfl (fun c5 => ?_) (fun c5 => by exfalso; omega)
    refine g_iconst (n := 733) X dL_law_732 rfl ?_
    refine g_callVi (n := 736) (As := [gJ u1, gJ 0]) (rest := [gJ v2]) (cs1 := cs) (ss1 := ss) X (s_X12_proof u1 (by omega) 0 (by omega) hsz IM3 CM3 ) okX12_proof kw_6_157 ⟨kw_6_158, kw_6_159⟩ ⟨rfl, rfl⟩ ⟨Nat.le_of_ble_eq_true rfl, Nat.le_of_ble_eq_true rfl⟩ rfl (by decide) (gsz hsz (by decide)) lay_190 rfl rfl (Nat.le_of_ble_eq_true rfl) hRm rfl rfl dL_law_733 rfl (fun v6 M7 P8 => ?_)
    obtain ⟨rv6, IM7, CM7, FM7, xM7⟩ := P8
    obtain ⟨hz, hR_nright, hR_nent, hR_rkind, hR_rwho, hR_rto, hR_rn, hR_rweek, hR_rsure, hR_proofs⟩ := rel_proof (by omega) LR.2.2.2.2.1 LR.2.2.2.2.2.1 (gR_of hsz I) LR.2.2.2.2.2.2.1 LR.2.2.2.2.2.2.2.1 LR.2.2.2.2.2.2.2.2.1 LR.2.2.2.2.2.2.2.2.2.1 LR.2.2.2.2.2.2.2.2.2.2.1 LR.2.2.2.2.2.2.2.2.2.2.2.1 LR.2.2.2.2.2.2.2.2.2.2.2.2 xM3 xM7 (fun k => gFr.s191 FM3 rfl k) (fun r k h0 h1 h2 h3 => gFr.Rt FM7 rfl (o := 47 + r) (by omega) k) (gFr.at FM7 rc_1_11.2.2 rfl) (gFr.at FM7 rc_1_12.2.2 rfl)
    refine g_icmp_eq (n := 739) (tgt := 1992) X dL_law_736 (by decide) (by omega) (by omega) rfl (fun c9 => ?_) (fun c9 => by exfalso; omega)
    exact kk _ _ _ _ ⟨hsz, IM7, CM7, (gW.fr (S := 1702168144313208236691947648) W ⟨sz, hsz, I⟩ (gFr.c (gFr.c gFr.rf FM3 rfl) FM7 rfl) rfl), (by rw [((gFr.at FM7 rc_1_13.2.2 rfl).trans (gFr.at FM3 rc_1_13.2.2 rfl))]; exact LA), (by rw [((gFr.at FM7 (rs_NA (k := 4) (by omega)).2.2 rfl).trans (gFr.at FM3 (rs_NA (k := 4) (by omega)).2.2 rfl))]; exact LB), (lwK.fr LK ((gFr.c (gFr.c gFr.rf FM3 rfl) FM7 rfl) : gFr 1702168144313208236691947648 M M7) rfl), ⟨(rl_now.fr (rl_now.fr LR.1 hN FM3 rfl) (gN_of hsz IM3) FM7 rfl), (rl_npers.fr (rl_npers.fr LR.2.1 hN FM3 rfl) (gN_of hsz IM3) FM7 rfl), (rl_sex.fr (rl_sex.fr LR.2.2.1 hN FM3 rfl) (gN_of hsz IM3) FM7 rfl), (rl_born.fr (rl_born.fr LR.2.2.2.1 hN FM3 rfl) (gN_of hsz IM3) FM7 rfl), hR_nright, hR_nent, hR_rkind, hR_rwho, hR_rto, hR_rn, hR_rweek, hR_rsure, hR_proofs⟩⟩
  · refine g_iconst (n := 707) X dL_law_706 rfl ?_
    refine g_goto (tgt := 711) X dL_law_707 (by decide) ?_
    refine g_callVi (n := 714) (As := [gJ u1, gJ 1]) (rest := []) (cs1 := cs) (ss1 := ss) X (s_X11_proof u1 (by omega) 1 (by omega) hsz I C ) okX11_proof kw_3_92 ⟨kw_3_93, kw_3_94⟩ ⟨rfl, rfl⟩ ⟨Nat.le_of_ble_eq_true rfl, Nat.le_of_ble_eq_true rfl⟩ rfl (by decide) (gsz hsz (by decide)) lay_0 rfl rfl (Nat.le_of_ble_eq_true rfl) hRm rfl rfl dL_law_711 rfl (fun v10 M11 P12 => ?_)
    obtain ⟨rv10, IM11, CM11, FM11, xM11⟩ := P12
    refine g_aload_n (n := 715) X 1 dL_law_714 rfl rfl rfl ?_
    refine g_aload_n (n := 716) X 3 dL_law_715 rfl rfl rfl ?_
    refine g_iload_n (n := 717) X 0 dL_law_716 rfl rfl rfl ?_
    refine g_iconst (n := 718) X dL_law_717 rfl ?_
    refine g_iadd (n := 719) (z := i + 1) X dL_law_718 (by omega) rfl ?_
    refine g_scrld (n := 720) (z := u1) X hb (by omega) (by omega) (by omega) dL_law_719 rfl eu1 ?_
    refine g_aload_n (n := 721) X 3 dL_law_720 rfl rfl rfl ?_
    refine g_iload_n (n := 722) X 0 dL_law_721 rfl rfl rfl ?_
    refine g_iconst (n := 723) X dL_law_722 rfl ?_
    refine g_iadd (n := 724) (z := i + 2) X dL_law_723 (by omega) rfl ?_
    refine g_scrld (n := 725) (z := u2) X hb (by omega) (by omega) (by omega) dL_law_724 rfl eu2 ?_
    refine g_if_eq (n := 728) (tgt := 732) X dL_law_725 (by decide) (by omega) rfl (fun c13 => by exfalso; omega) (fun c13 => ?_)
    refine g_iconst (n := 729) X dL_law_728 rfl ?_
    refine g_goto (tgt := 733) X dL_law_729 (by decide) ?_
    refine g_callVi (n := 736) (As := [gJ u1, gJ 1]) (rest := [gJ v10]) (cs1 := cs) (ss1 := ss) X (s_X12_proof u1 (by omega) 1 (by omega) hsz IM11 CM11 ) okX12_proof kw_6_157 ⟨kw_6_158, kw_6_159⟩ ⟨rfl, rfl⟩ ⟨Nat.le_of_ble_eq_true rfl, Nat.le_of_ble_eq_true rfl⟩ rfl (by decide) (gsz hsz (by decide)) lay_190 rfl rfl (Nat.le_of_ble_eq_true rfl) hRm rfl rfl dL_law_733 rfl (fun v14 M15 P16 => ?_)
    obtain ⟨rv14, IM15, CM15, FM15, xM15⟩ := P16
    obtain ⟨hz, hR_nright, hR_nent, hR_rkind, hR_rwho, hR_rto, hR_rn, hR_rweek, hR_rsure, hR_proofs⟩ := rel_proof (by omega) LR.2.2.2.2.1 LR.2.2.2.2.2.1 (gR_of hsz I) LR.2.2.2.2.2.2.1 LR.2.2.2.2.2.2.2.1 LR.2.2.2.2.2.2.2.2.1 LR.2.2.2.2.2.2.2.2.2.1 LR.2.2.2.2.2.2.2.2.2.2.1 LR.2.2.2.2.2.2.2.2.2.2.2.1 LR.2.2.2.2.2.2.2.2.2.2.2.2 xM11 xM15 (fun k => gFr.s191 FM11 rfl k) (fun r k h0 h1 h2 h3 => gFr.Rt FM15 rfl (o := 47 + r) (by omega) k) (gFr.at FM15 rc_1_11.2.2 rfl) (gFr.at FM15 rc_1_12.2.2 rfl)
    refine g_icmp_eq (n := 739) (tgt := 1992) X dL_law_736 (by decide) (by omega) (by omega) rfl (fun c17 => ?_) (fun c17 => by exfalso; omega)
    exact kk _ _ _ _ ⟨hsz, IM15, CM15, (gW.fr (S := 1702168144313208236691947648) W ⟨sz, hsz, I⟩ (gFr.c (gFr.c gFr.rf FM11 rfl) FM15 rfl) rfl), (by rw [((gFr.at FM15 rc_1_13.2.2 rfl).trans (gFr.at FM11 rc_1_13.2.2 rfl))]; exact LA), (by rw [((gFr.at FM15 (rs_NA (k := 4) (by omega)).2.2 rfl).trans (gFr.at FM11 (rs_NA (k := 4) (by omega)).2.2 rfl))]; exact LB), (lwK.fr LK ((gFr.c (gFr.c gFr.rf FM11 rfl) FM15 rfl) : gFr 1702168144313208236691947648 M M15) rfl), ⟨(rl_now.fr (rl_now.fr LR.1 hN FM11 rfl) (gN_of hsz IM11) FM15 rfl), (rl_npers.fr (rl_npers.fr LR.2.1 hN FM11 rfl) (gN_of hsz IM11) FM15 rfl), (rl_sex.fr (rl_sex.fr LR.2.2.1 hN FM11 rfl) (gN_of hsz IM11) FM15 rfl), (rl_born.fr (rl_born.fr LR.2.2.2.1 hN FM11 rfl) (gN_of hsz IM11) FM15 rfl), hR_nright, hR_nent, hR_rkind, hR_rwho, hR_rto, hR_rn, hR_rweek, hR_rsure, hR_proofs⟩⟩
theorem dL_law_741 : decode code 741 = .ok (.aload_n 1, 1) := dc_43 (by decide +kernel)
theorem dL_law_742 : decode code 742 = .ok (.aload_n 0, 1) := dc_42 (by decide +kernel)
theorem dL_law_743 : decode code 743 = .ok (.iload_n 3, 1) := dc_29 (by decide +kernel)
theorem dL_law_744 : decode code 744 = .ok (.iconst 1, 1) := dc_4 (by decide +kernel)
theorem dL_law_745 : decode code 745 = .ok (.iadd, 1) := dc_96 (by decide +kernel)
theorem dL_law_746 : decode code 746 = .ok (.iaload, 1) := dc_46 (by decide +kernel)
theorem dL_law_747 : decode code 747 = .ok (.aload_n 0, 1) := dc_42 (by decide +kernel)
theorem dL_law_748 : decode code 748 = .ok (.iload_n 3, 1) := dc_29 (by decide +kernel)
theorem dL_law_749 : decode code 749 = .ok (.iconst 2, 1) := dc_5 (by decide +kernel)
theorem dL_law_750 : decode code 750 = .ok (.iadd, 1) := dc_96 (by decide +kernel)
theorem dL_law_751 : decode code 751 = .ok (.iaload, 1) := dc_46 (by decide +kernel)
theorem dL_law_752 : decode code 752 = .ok (.invokevirtual 56, 3) := dc_182 0 56 (by decide +kernel)
theorem kw_3_100 : (Jvm.Cond.methodLink "ParishUnionLaw" (56 : Nat) ({ cls := "ParishUnion", name := "right", desc := "(II)I" } : Jvm.MethodName)) ∈ gT := gT_of (tb_3 _ (List.mem_of_getElem? (i := 100) rfl)) rfl
theorem kw_3_103 : (Jvm.Cond.code ({ cls := "ParishUnion", name := "right", desc := "(II)I" } : Jvm.MethodName) prog_1_method_11_code (4 : Nat) (Option.some Jvm.ClassFile.FieldType.int)) ∈ gT := gT_of (tb_3 _ (List.mem_of_getElem? (i := 103) rfl)) rfl
theorem okX11_right : gQok yX11_right cX11_right 4 (Option.some Jvm.ClassFile.FieldType.int) 2 := ⟨kw_3_103, kw_1_1, by decide +kernel, by decide +kernel, by decide +kernel⟩
theorem kw_3_101 : (Jvm.Cond.instanceMethod ({ cls := "ParishUnion", name := "right", desc := "(II)I" } : Jvm.MethodName)) ∈ gT := gT_of (tb_3 _ (List.mem_of_getElem? (i := 101) rfl)) rfl
theorem kw_3_102 : (Jvm.Cond.selects "ParishUnion" ({ cls := "ParishUnion", name := "right", desc := "(II)I" } : Jvm.MethodName) ({ cls := "ParishUnion", name := "right", desc := "(II)I" } : Jvm.MethodName)) ∈ gT := gT_of (tb_3 _ (List.mem_of_getElem? (i := 102) rfl)) rfl
theorem dL_law_755 : decode code 755 = .ok (.pop, 1) := dc_87 (by decide +kernel)
theorem dL_law_756 : decode code 756 = .ok (.aload_n 2, 1) := dc_44 (by decide +kernel)
theorem dL_law_757 : decode code 757 = .ok (.aload_n 0, 1) := dc_42 (by decide +kernel)
theorem dL_law_758 : decode code 758 = .ok (.iload_n 3, 1) := dc_29 (by decide +kernel)
theorem dL_law_759 : decode code 759 = .ok (.iconst 1, 1) := dc_4 (by decide +kernel)
theorem dL_law_760 : decode code 760 = .ok (.iadd, 1) := dc_96 (by decide +kernel)
theorem dL_law_761 : decode code 761 = .ok (.iaload, 1) := dc_46 (by decide +kernel)
theorem dL_law_762 : decode code 762 = .ok (.aload_n 0, 1) := dc_42 (by decide +kernel)
theorem dL_law_763 : decode code 763 = .ok (.iload_n 3, 1) := dc_29 (by decide +kernel)
theorem dL_law_764 : decode code 764 = .ok (.iconst 2, 1) := dc_5 (by decide +kernel)
theorem dL_law_765 : decode code 765 = .ok (.iadd, 1) := dc_96 (by decide +kernel)
theorem dL_law_766 : decode code 766 = .ok (.iaload, 1) := dc_46 (by decide +kernel)
theorem dL_law_767 : decode code 767 = .ok (.invokevirtual 59, 3) := dc_182 0 59 (by decide +kernel)
theorem kw_6_161 : (Jvm.Cond.methodLink "ParishUnionLaw" (59 : Nat) ({ cls := "ParishUnionModel", name := "right", desc := "(II)I" } : Jvm.MethodName)) ∈ gT := gT_of (tb_6 _ (List.mem_of_getElem? (i := 161) rfl)) rfl
theorem kw_6_164 : (Jvm.Cond.code ({ cls := "ParishUnionModel", name := "right", desc := "(II)I" } : Jvm.MethodName) prog_14_method_23_code (3 : Nat) (Option.some Jvm.ClassFile.FieldType.int)) ∈ gT := gT_of (tb_6 _ (List.mem_of_getElem? (i := 164) rfl)) rfl
theorem okX12_right : gQok yX12_right cX12_right 3 (Option.some Jvm.ClassFile.FieldType.int) 2 := ⟨kw_6_164, kw_1_13, by decide +kernel, by decide +kernel, by decide +kernel⟩
theorem kw_6_162 : (Jvm.Cond.instanceMethod ({ cls := "ParishUnionModel", name := "right", desc := "(II)I" } : Jvm.MethodName)) ∈ gT := gT_of (tb_6 _ (List.mem_of_getElem? (i := 162) rfl)) rfl
theorem kw_6_163 : (Jvm.Cond.selects "ParishUnionModel" ({ cls := "ParishUnionModel", name := "right", desc := "(II)I" } : Jvm.MethodName) ({ cls := "ParishUnionModel", name := "right", desc := "(II)I" } : Jvm.MethodName)) ∈ gT := gT_of (tb_6 _ (List.mem_of_getElem? (i := 163) rfl)) rfl
theorem dL_law_770 : decode code 770 = .ok (.pop, 1) := dc_87 (by decide +kernel)
theorem dL_law_771 : decode code 771 = .ok (.goto 1221, 3) := dc_167 4 197 1221 (by decide +kernel)
set_option maxRecDepth 100000 in
set_option maxHeartbeats 4000000 in
theorem law_case_9 {p : Program} {e : Env} {s : State} {m : MethodId} {below : List Frame} {meth : Method} {cd : Code} {l : Launch} {D : va_G} {cA : Nat → ClassId} {b Ln : Nat} {xs : Nat → Int32} (X : gCx p s m #[Value.ref b] meth cd s.heap.size D cA "ParishUnionLaw" code 4) (hr : meth.sig.returnType = ret) (hb : b < s.heap.size ∧ va_X b Ln xs s s.heap) (hLn : Ln ≤ 3584) {sz cs ss : Nat} {M : gM} (L : lwI sz cs ss M) (i : Int) (hi : 0 ≤ i ∧ i + 7 ≤ (Ln : Int)) (kk : ∀ (sz cs ss : Nat) (M1 : gM), lwI sz cs ss M1 → G p l e room_1 s m #[Value.ref b] below meth cd s.heap.size D cA 4 (lw_Z below #[Value.ref b] s) cs ss M1 sz 1992 [(3, gJ i), (2, gA s.heap.size 190), (1, gA s.heap.size 0), (0, .ref b)] []) : G p l e room_1 s m #[Value.ref b] below meth cd s.heap.size D cA 4 (lw_Z below #[Value.ref b] s) cs ss M sz 741 [(3, gJ i), (2, gA s.heap.size 190), (1, gA s.heap.size 0), (0, .ref b)] [] := by
  obtain ⟨hsz, I, C, W, LA, LB, LK, LR⟩ := L
  have hN := gN_of hsz I
  obtain ⟨ac, hac, rac⟩ : ∃ v : Int, M 1 13 = v ∧ (0 ≤ v ∧ v ≤ 10) := by
    obtain ⟨v, hv, rv⟩ := gRd I (by decide) (gsz hsz (by decide)) rc_1_13.1
    exact ⟨v, hv, by omega⟩
  obtain ⟨ab, hab, rab⟩ : ∃ v : Int, M 191 4 = v ∧ (0 ≤ v ∧ v ≤ 10) := by
    obtain ⟨v, hv, rv⟩ := gRd I (by decide) (gsz hsz (by decide)) (rs_NA (k := 4) (by omega)).1
    exact ⟨v, hv, by omega⟩
  have hRm : cs + 0 ≤ room_1.cells ∧ ss + 0 ≤ room_1.slots := by
    show cs + 0 ≤ 349274 ∧ ss + 0 ≤ 8054428
    have := lwK.room LK
    omega
  obtain ⟨u1, eu1, ru1⟩ : ∃ z : Int, xs (i + 1).toNat = Int32.ofInt z ∧ (-2147483648 ≤ z ∧ z ≤ 2147483647) := ⟨_, gi_of _, gi_rg _⟩
  obtain ⟨u2, eu2, ru2⟩ : ∃ z : Int, xs (i + 2).toNat = Int32.ofInt z ∧ (-2147483648 ≤ z ∧ z ≤ 2147483647) := ⟨_, gi_of _, gi_rg _⟩
  obtain ⟨u3, eu3, ru3⟩ : ∃ z : Int, xs (i + 3).toNat = Int32.ofInt z ∧ (-2147483648 ≤ z ∧ z ≤ 2147483647) := ⟨_, gi_of _, gi_rg _⟩
  obtain ⟨u4, eu4, ru4⟩ : ∃ z : Int, xs (i + 4).toNat = Int32.ofInt z ∧ (-2147483648 ≤ z ∧ z ≤ 2147483647) := ⟨_, gi_of _, gi_rg _⟩
  obtain ⟨u5, eu5, ru5⟩ : ∃ z : Int, xs (i + 5).toNat = Int32.ofInt z ∧ (-2147483648 ≤ z ∧ z ≤ 2147483647) := ⟨_, gi_of _, gi_rg _⟩
  obtain ⟨u6, eu6, ru6⟩ : ∃ z : Int, xs (i + 6).toNat = Int32.ofInt z ∧ (-2147483648 ≤ z ∧ z ≤ 2147483647) := ⟨_, gi_of _, gi_rg _⟩
  refine g_aload_n (n := 742) X 2 dL_law_741 rfl rfl rfl ?_
  refine g_aload_n (n := 743) X 3 dL_law_742 rfl rfl rfl ?_
  refine g_iload_n (n := 744) X 0 dL_law_743 rfl rfl rfl ?_
  refine g_iconst (n := 745) X dL_law_744 rfl ?_
  refine g_iadd (n := 746) (z := i + 1) X dL_law_745 (by omega) rfl ?_
  refine g_scrld (n := 747) (z := u1) X hb (by omega) (by omega) (by omega) dL_law_746 rfl eu1 ?_
  refine g_aload_n (n := 748) X 3 dL_law_747 rfl rfl rfl ?_
  refine g_iload_n (n := 749) X 0 dL_law_748 rfl rfl rfl ?_
  refine g_iconst (n := 750) X dL_law_749 rfl ?_
  refine g_iadd (n := 751) (z := i + 2) X dL_law_750 (by omega) rfl ?_
  refine g_scrld (n := 752) (z := u2) X hb (by omega) (by omega) (by omega) dL_law_751 rfl eu2 ?_
  refine g_callVi (n := 755) (As := [gJ u1, gJ u2]) (rest := []) (cs1 := cs) (ss1 := ss) X (s_X11_right u1 (by omega) u2 (by omega) hsz I C ) okX11_right kw_3_100 ⟨kw_3_101, kw_3_102⟩ ⟨rfl, rfl⟩ ⟨Nat.le_of_ble_eq_true rfl, Nat.le_of_ble_eq_true rfl⟩ rfl (by decide) (gsz hsz (by decide)) lay_0 rfl rfl (Nat.le_of_ble_eq_true rfl) hRm rfl rfl dL_law_752 rfl (fun v1 M2 P3 => ?_)
  obtain ⟨rfl, rv1, xv1⟩ := P3
  refine g_pop (n := 756) X dL_law_755 rfl rfl ?_
  refine g_aload_n (n := 757) X 1 dL_law_756 rfl rfl rfl ?_
  refine g_aload_n (n := 758) X 3 dL_law_757 rfl rfl rfl ?_
  refine g_iload_n (n := 759) X 0 dL_law_758 rfl rfl rfl ?_
  refine g_iconst (n := 760) X dL_law_759 rfl ?_
  refine g_iadd (n := 761) (z := i + 1) X dL_law_760 (by omega) rfl ?_
  refine g_scrld (n := 762) (z := u1) X hb (by omega) (by omega) (by omega) dL_law_761 rfl eu1 ?_
  refine g_aload_n (n := 763) X 3 dL_law_762 rfl rfl rfl ?_
  refine g_iload_n (n := 764) X 0 dL_law_763 rfl rfl rfl ?_
  refine g_iconst (n := 765) X dL_law_764 rfl ?_
  refine g_iadd (n := 766) (z := i + 2) X dL_law_765 (by omega) rfl ?_
  refine g_scrld (n := 767) (z := u2) X hb (by omega) (by omega) (by omega) dL_law_766 rfl eu2 ?_
  refine g_callVi (n := 770) (As := [gJ u1, gJ u2]) (rest := []) (cs1 := cs) (ss1 := ss) X (s_X12_right u1 (by omega) u2 (by omega) hsz I C ) okX12_right kw_6_161 ⟨kw_6_162, kw_6_163⟩ ⟨rfl, rfl⟩ ⟨Nat.le_of_ble_eq_true rfl, Nat.le_of_ble_eq_true rfl⟩ rfl (by decide) (gsz hsz (by decide)) lay_190 rfl rfl (Nat.le_of_ble_eq_true rfl) hRm rfl rfl dL_law_767 rfl (fun v4 M5 P6 => ?_)
  obtain ⟨rv4, IM5, CM5, FM5, xM5⟩ := P6
  refine g_pop (n := 771) X dL_law_770 rfl rfl ?_
  refine g_goto (tgt := 1992) X dL_law_771 (by decide) ?_
  exact kk _ _ _ _ ⟨hsz, IM5, CM5, (gW.fr (S := 2475880189251224992055558144) W ⟨sz, hsz, I⟩ (gFr.c gFr.rf FM5 rfl) rfl), (by rw [(gFr.at FM5 rc_1_13.2.2 rfl)]; exact LA), (by rw [(gFr.at FM5 (rs_NA (k := 4) (by omega)).2.2 rfl)]; exact LB), (lwK.fr LK ((gFr.c gFr.rf FM5 rfl) : gFr 2475880189251224992055558144 M M5) rfl), ⟨(rl_now.fr LR.1 hN FM5 rfl), (rl_npers.fr LR.2.1 hN FM5 rfl), (rl_sex.fr LR.2.2.1 hN FM5 rfl), (rl_born.fr LR.2.2.2.1 hN FM5 rfl), (rl_nright.fr LR.2.2.2.2.1 hN FM5 rfl), (rl_nent.fr LR.2.2.2.2.2.1 hN FM5 rfl), (rl_rkind.fr LR.2.2.2.2.2.2.1 hN FM5 rfl), (rl_rwho.fr LR.2.2.2.2.2.2.2.1 hN FM5 rfl), (rl_rto.fr LR.2.2.2.2.2.2.2.2.1 hN FM5 rfl), (rl_rn.fr LR.2.2.2.2.2.2.2.2.2.1 hN FM5 rfl), (rl_rweek.fr LR.2.2.2.2.2.2.2.2.2.2.1 hN FM5 rfl), (rl_rsure.fr LR.2.2.2.2.2.2.2.2.2.2.2.1 hN FM5 rfl), (rl_proofs.fr LR.2.2.2.2.2.2.2.2.2.2.2.2 hN FM5 rfl)⟩⟩
theorem dL_law_774 : decode code 774 = .ok (.aload_n 1, 1) := dc_43 (by decide +kernel)
theorem dL_law_775 : decode code 775 = .ok (.aload_n 0, 1) := dc_42 (by decide +kernel)
theorem dL_law_776 : decode code 776 = .ok (.iload_n 3, 1) := dc_29 (by decide +kernel)
theorem dL_law_777 : decode code 777 = .ok (.iconst 1, 1) := dc_4 (by decide +kernel)
theorem dL_law_778 : decode code 778 = .ok (.iadd, 1) := dc_96 (by decide +kernel)
theorem dL_law_779 : decode code 779 = .ok (.iaload, 1) := dc_46 (by decide +kernel)
theorem dL_law_780 : decode code 780 = .ok (.aload_n 0, 1) := dc_42 (by decide +kernel)
theorem dL_law_781 : decode code 781 = .ok (.iload_n 3, 1) := dc_29 (by decide +kernel)
theorem dL_law_782 : decode code 782 = .ok (.iconst 2, 1) := dc_5 (by decide +kernel)
theorem dL_law_783 : decode code 783 = .ok (.iadd, 1) := dc_96 (by decide +kernel)
theorem dL_law_784 : decode code 784 = .ok (.iaload, 1) := dc_46 (by decide +kernel)
theorem dL_law_785 : decode code 785 = .ok (.invokevirtual 60, 3) := dc_182 0 60 (by decide +kernel)
theorem kw_3_108 : (Jvm.Cond.methodLink "ParishUnionLaw" (60 : Nat) ({ cls := "ParishUnion", name := "taken", desc := "(II)I" } : Jvm.MethodName)) ∈ gT := gT_of (tb_3 _ (List.mem_of_getElem? (i := 108) rfl)) rfl
theorem kw_3_111 : (Jvm.Cond.code ({ cls := "ParishUnion", name := "taken", desc := "(II)I" } : Jvm.MethodName) prog_1_method_12_code (4 : Nat) (Option.some Jvm.ClassFile.FieldType.int)) ∈ gT := gT_of (tb_3 _ (List.mem_of_getElem? (i := 111) rfl)) rfl
theorem okX11_taken : gQok yX11_taken cX11_taken 4 (Option.some Jvm.ClassFile.FieldType.int) 2 := ⟨kw_3_111, kw_1_1, by decide +kernel, by decide +kernel, by decide +kernel⟩
theorem kw_3_109 : (Jvm.Cond.instanceMethod ({ cls := "ParishUnion", name := "taken", desc := "(II)I" } : Jvm.MethodName)) ∈ gT := gT_of (tb_3 _ (List.mem_of_getElem? (i := 109) rfl)) rfl
theorem kw_3_110 : (Jvm.Cond.selects "ParishUnion" ({ cls := "ParishUnion", name := "taken", desc := "(II)I" } : Jvm.MethodName) ({ cls := "ParishUnion", name := "taken", desc := "(II)I" } : Jvm.MethodName)) ∈ gT := gT_of (tb_3 _ (List.mem_of_getElem? (i := 110) rfl)) rfl
theorem dL_law_788 : decode code 788 = .ok (.pop, 1) := dc_87 (by decide +kernel)
theorem dL_law_789 : decode code 789 = .ok (.aload_n 2, 1) := dc_44 (by decide +kernel)
theorem dL_law_790 : decode code 790 = .ok (.aload_n 0, 1) := dc_42 (by decide +kernel)
theorem dL_law_791 : decode code 791 = .ok (.iload_n 3, 1) := dc_29 (by decide +kernel)
theorem dL_law_792 : decode code 792 = .ok (.iconst 1, 1) := dc_4 (by decide +kernel)
theorem dL_law_793 : decode code 793 = .ok (.iadd, 1) := dc_96 (by decide +kernel)
theorem dL_law_794 : decode code 794 = .ok (.iaload, 1) := dc_46 (by decide +kernel)
theorem dL_law_795 : decode code 795 = .ok (.aload_n 0, 1) := dc_42 (by decide +kernel)
theorem dL_law_796 : decode code 796 = .ok (.iload_n 3, 1) := dc_29 (by decide +kernel)
theorem dL_law_797 : decode code 797 = .ok (.iconst 2, 1) := dc_5 (by decide +kernel)
theorem dL_law_798 : decode code 798 = .ok (.iadd, 1) := dc_96 (by decide +kernel)
theorem dL_law_799 : decode code 799 = .ok (.iaload, 1) := dc_46 (by decide +kernel)
theorem dL_law_800 : decode code 800 = .ok (.invokevirtual 63, 3) := dc_182 0 63 (by decide +kernel)
theorem kw_6_169 : (Jvm.Cond.methodLink "ParishUnionLaw" (63 : Nat) ({ cls := "ParishUnionModel", name := "taken", desc := "(II)I" } : Jvm.MethodName)) ∈ gT := gT_of (tb_6 _ (List.mem_of_getElem? (i := 169) rfl)) rfl
theorem kw_6_172 : (Jvm.Cond.code ({ cls := "ParishUnionModel", name := "taken", desc := "(II)I" } : Jvm.MethodName) prog_14_method_25_code (4 : Nat) (Option.some Jvm.ClassFile.FieldType.int)) ∈ gT := gT_of (tb_6 _ (List.mem_of_getElem? (i := 172) rfl)) rfl
theorem okX12_taken : gQok yX12_taken cX12_taken 4 (Option.some Jvm.ClassFile.FieldType.int) 2 := ⟨kw_6_172, kw_1_13, by decide +kernel, by decide +kernel, by decide +kernel⟩
theorem kw_6_170 : (Jvm.Cond.instanceMethod ({ cls := "ParishUnionModel", name := "taken", desc := "(II)I" } : Jvm.MethodName)) ∈ gT := gT_of (tb_6 _ (List.mem_of_getElem? (i := 170) rfl)) rfl
theorem kw_6_171 : (Jvm.Cond.selects "ParishUnionModel" ({ cls := "ParishUnionModel", name := "taken", desc := "(II)I" } : Jvm.MethodName) ({ cls := "ParishUnionModel", name := "taken", desc := "(II)I" } : Jvm.MethodName)) ∈ gT := gT_of (tb_6 _ (List.mem_of_getElem? (i := 171) rfl)) rfl
theorem dL_law_803 : decode code 803 = .ok (.pop, 1) := dc_87 (by decide +kernel)
theorem dL_law_804 : decode code 804 = .ok (.goto 1188, 3) := dc_167 4 164 1188 (by decide +kernel)
set_option maxRecDepth 100000 in
set_option maxHeartbeats 4000000 in
theorem law_case_10 {p : Program} {e : Env} {s : State} {m : MethodId} {below : List Frame} {meth : Method} {cd : Code} {l : Launch} {D : va_G} {cA : Nat → ClassId} {b Ln : Nat} {xs : Nat → Int32} (X : gCx p s m #[Value.ref b] meth cd s.heap.size D cA "ParishUnionLaw" code 4) (hr : meth.sig.returnType = ret) (hb : b < s.heap.size ∧ va_X b Ln xs s s.heap) (hLn : Ln ≤ 3584) {sz cs ss : Nat} {M : gM} (L : lwI sz cs ss M) (i : Int) (hi : 0 ≤ i ∧ i + 7 ≤ (Ln : Int)) (kk : ∀ (sz cs ss : Nat) (M1 : gM), lwI sz cs ss M1 → G p l e room_1 s m #[Value.ref b] below meth cd s.heap.size D cA 4 (lw_Z below #[Value.ref b] s) cs ss M1 sz 1992 [(3, gJ i), (2, gA s.heap.size 190), (1, gA s.heap.size 0), (0, .ref b)] []) : G p l e room_1 s m #[Value.ref b] below meth cd s.heap.size D cA 4 (lw_Z below #[Value.ref b] s) cs ss M sz 774 [(3, gJ i), (2, gA s.heap.size 190), (1, gA s.heap.size 0), (0, .ref b)] [] := by
  obtain ⟨hsz, I, C, W, LA, LB, LK, LR⟩ := L
  have hN := gN_of hsz I
  obtain ⟨ac, hac, rac⟩ : ∃ v : Int, M 1 13 = v ∧ (0 ≤ v ∧ v ≤ 10) := by
    obtain ⟨v, hv, rv⟩ := gRd I (by decide) (gsz hsz (by decide)) rc_1_13.1
    exact ⟨v, hv, by omega⟩
  obtain ⟨ab, hab, rab⟩ : ∃ v : Int, M 191 4 = v ∧ (0 ≤ v ∧ v ≤ 10) := by
    obtain ⟨v, hv, rv⟩ := gRd I (by decide) (gsz hsz (by decide)) (rs_NA (k := 4) (by omega)).1
    exact ⟨v, hv, by omega⟩
  have hRm : cs + 0 ≤ room_1.cells ∧ ss + 0 ≤ room_1.slots := by
    show cs + 0 ≤ 349274 ∧ ss + 0 ≤ 8054428
    have := lwK.room LK
    omega
  obtain ⟨u1, eu1, ru1⟩ : ∃ z : Int, xs (i + 1).toNat = Int32.ofInt z ∧ (-2147483648 ≤ z ∧ z ≤ 2147483647) := ⟨_, gi_of _, gi_rg _⟩
  obtain ⟨u2, eu2, ru2⟩ : ∃ z : Int, xs (i + 2).toNat = Int32.ofInt z ∧ (-2147483648 ≤ z ∧ z ≤ 2147483647) := ⟨_, gi_of _, gi_rg _⟩
  obtain ⟨u3, eu3, ru3⟩ : ∃ z : Int, xs (i + 3).toNat = Int32.ofInt z ∧ (-2147483648 ≤ z ∧ z ≤ 2147483647) := ⟨_, gi_of _, gi_rg _⟩
  obtain ⟨u4, eu4, ru4⟩ : ∃ z : Int, xs (i + 4).toNat = Int32.ofInt z ∧ (-2147483648 ≤ z ∧ z ≤ 2147483647) := ⟨_, gi_of _, gi_rg _⟩
  obtain ⟨u5, eu5, ru5⟩ : ∃ z : Int, xs (i + 5).toNat = Int32.ofInt z ∧ (-2147483648 ≤ z ∧ z ≤ 2147483647) := ⟨_, gi_of _, gi_rg _⟩
  obtain ⟨u6, eu6, ru6⟩ : ∃ z : Int, xs (i + 6).toNat = Int32.ofInt z ∧ (-2147483648 ≤ z ∧ z ≤ 2147483647) := ⟨_, gi_of _, gi_rg _⟩
  refine g_aload_n (n := 775) X 2 dL_law_774 rfl rfl rfl ?_
  refine g_aload_n (n := 776) X 3 dL_law_775 rfl rfl rfl ?_
  refine g_iload_n (n := 777) X 0 dL_law_776 rfl rfl rfl ?_
  refine g_iconst (n := 778) X dL_law_777 rfl ?_
  refine g_iadd (n := 779) (z := i + 1) X dL_law_778 (by omega) rfl ?_
  refine g_scrld (n := 780) (z := u1) X hb (by omega) (by omega) (by omega) dL_law_779 rfl eu1 ?_
  refine g_aload_n (n := 781) X 3 dL_law_780 rfl rfl rfl ?_
  refine g_iload_n (n := 782) X 0 dL_law_781 rfl rfl rfl ?_
  refine g_iconst (n := 783) X dL_law_782 rfl ?_
  refine g_iadd (n := 784) (z := i + 2) X dL_law_783 (by omega) rfl ?_
  refine g_scrld (n := 785) (z := u2) X hb (by omega) (by omega) (by omega) dL_law_784 rfl eu2 ?_
  refine g_callVi (n := 788) (As := [gJ u1, gJ u2]) (rest := []) (cs1 := cs) (ss1 := ss) X (s_X11_taken u1 (by omega) u2 (by omega) hsz I C ) okX11_taken kw_3_108 ⟨kw_3_109, kw_3_110⟩ ⟨rfl, rfl⟩ ⟨Nat.le_of_ble_eq_true rfl, Nat.le_of_ble_eq_true rfl⟩ rfl (by decide) (gsz hsz (by decide)) lay_0 rfl rfl (Nat.le_of_ble_eq_true rfl) hRm rfl rfl dL_law_785 rfl (fun v1 M2 P3 => ?_)
  obtain ⟨rfl, rv1, xv1⟩ := P3
  refine g_pop (n := 789) X dL_law_788 rfl rfl ?_
  refine g_aload_n (n := 790) X 1 dL_law_789 rfl rfl rfl ?_
  refine g_aload_n (n := 791) X 3 dL_law_790 rfl rfl rfl ?_
  refine g_iload_n (n := 792) X 0 dL_law_791 rfl rfl rfl ?_
  refine g_iconst (n := 793) X dL_law_792 rfl ?_
  refine g_iadd (n := 794) (z := i + 1) X dL_law_793 (by omega) rfl ?_
  refine g_scrld (n := 795) (z := u1) X hb (by omega) (by omega) (by omega) dL_law_794 rfl eu1 ?_
  refine g_aload_n (n := 796) X 3 dL_law_795 rfl rfl rfl ?_
  refine g_iload_n (n := 797) X 0 dL_law_796 rfl rfl rfl ?_
  refine g_iconst (n := 798) X dL_law_797 rfl ?_
  refine g_iadd (n := 799) (z := i + 2) X dL_law_798 (by omega) rfl ?_
  refine g_scrld (n := 800) (z := u2) X hb (by omega) (by omega) (by omega) dL_law_799 rfl eu2 ?_
  refine g_callVi (n := 803) (As := [gJ u1, gJ u2]) (rest := []) (cs1 := cs) (ss1 := ss) X (s_X12_taken u1 (by omega) u2 (by omega) hsz I C ) okX12_taken kw_6_169 ⟨kw_6_170, kw_6_171⟩ ⟨rfl, rfl⟩ ⟨Nat.le_of_ble_eq_true rfl, Nat.le_of_ble_eq_true rfl⟩ rfl (by decide) (gsz hsz (by decide)) lay_190 rfl rfl (Nat.le_of_ble_eq_true rfl) hRm rfl rfl dL_law_800 rfl (fun v4 M5 P6 => ?_)
  obtain ⟨rfl, rv4, xv4⟩ := P6
  refine g_pop (n := 804) X dL_law_803 rfl rfl ?_
  refine g_goto (tgt := 1992) X dL_law_804 (by decide) ?_
  exact kk _ _ _ _ ⟨hsz, I, C, W, LA, LB, (lwK.fr LK (gFr.rf : gFr 0 M M) rfl), ⟨LR.1, LR.2.1, LR.2.2.1, LR.2.2.2.1, LR.2.2.2.2.1, LR.2.2.2.2.2.1, LR.2.2.2.2.2.2.1, LR.2.2.2.2.2.2.2.1, LR.2.2.2.2.2.2.2.2.1, LR.2.2.2.2.2.2.2.2.2.1, LR.2.2.2.2.2.2.2.2.2.2.1, LR.2.2.2.2.2.2.2.2.2.2.2.1, LR.2.2.2.2.2.2.2.2.2.2.2.2⟩⟩
theorem dL_law_807 : decode code 807 = .ok (.aload_n 1, 1) := dc_43 (by decide +kernel)
theorem dL_law_808 : decode code 808 = .ok (.aload_n 0, 1) := dc_42 (by decide +kernel)
theorem dL_law_809 : decode code 809 = .ok (.iload_n 3, 1) := dc_29 (by decide +kernel)
theorem dL_law_810 : decode code 810 = .ok (.iconst 1, 1) := dc_4 (by decide +kernel)
theorem dL_law_811 : decode code 811 = .ok (.iadd, 1) := dc_96 (by decide +kernel)
theorem dL_law_812 : decode code 812 = .ok (.iaload, 1) := dc_46 (by decide +kernel)
theorem dL_law_813 : decode code 813 = .ok (.aload_n 0, 1) := dc_42 (by decide +kernel)
theorem dL_law_814 : decode code 814 = .ok (.iload_n 3, 1) := dc_29 (by decide +kernel)
theorem dL_law_815 : decode code 815 = .ok (.iconst 2, 1) := dc_5 (by decide +kernel)
theorem dL_law_816 : decode code 816 = .ok (.iadd, 1) := dc_96 (by decide +kernel)
theorem dL_law_817 : decode code 817 = .ok (.iaload, 1) := dc_46 (by decide +kernel)
theorem dL_law_818 : decode code 818 = .ok (.aload_n 0, 1) := dc_42 (by decide +kernel)
theorem dL_law_819 : decode code 819 = .ok (.iload_n 3, 1) := dc_29 (by decide +kernel)
theorem dL_law_820 : decode code 820 = .ok (.iconst 3, 1) := dc_6 (by decide +kernel)
theorem dL_law_821 : decode code 821 = .ok (.iadd, 1) := dc_96 (by decide +kernel)
theorem dL_law_822 : decode code 822 = .ok (.iaload, 1) := dc_46 (by decide +kernel)
theorem dL_law_823 : decode code 823 = .ok (.aload_n 0, 1) := dc_42 (by decide +kernel)
theorem dL_law_824 : decode code 824 = .ok (.iload_n 3, 1) := dc_29 (by decide +kernel)
theorem dL_law_825 : decode code 825 = .ok (.iconst 4, 1) := dc_7 (by decide +kernel)
theorem dL_law_826 : decode code 826 = .ok (.iadd, 1) := dc_96 (by decide +kernel)
theorem dL_law_827 : decode code 827 = .ok (.iaload, 1) := dc_46 (by decide +kernel)
theorem dL_law_828 : decode code 828 = .ok (.invokevirtual 64, 3) := dc_182 0 64 (by decide +kernel)
theorem kw_3_122 : (Jvm.Cond.methodLink "ParishUnionLaw" (64 : Nat) ({ cls := "ParishUnion", name := "settle", desc := "(IIII)I" } : Jvm.MethodName)) ∈ gT := gT_of (tb_3 _ (List.mem_of_getElem? (i := 122) rfl)) rfl
theorem kw_3_125 : (Jvm.Cond.code ({ cls := "ParishUnion", name := "settle", desc := "(IIII)I" } : Jvm.MethodName) prog_1_method_13_code (5 : Nat) (Option.some Jvm.ClassFile.FieldType.int)) ∈ gT := gT_of (tb_3 _ (List.mem_of_getElem? (i := 125) rfl)) rfl
theorem okX11_settle : gQok yX11_settle cX11_settle 5 (Option.some Jvm.ClassFile.FieldType.int) 4 := ⟨kw_3_125, kw_1_1, by decide +kernel, by decide +kernel, by decide +kernel⟩
theorem kw_3_123 : (Jvm.Cond.instanceMethod ({ cls := "ParishUnion", name := "settle", desc := "(IIII)I" } : Jvm.MethodName)) ∈ gT := gT_of (tb_3 _ (List.mem_of_getElem? (i := 123) rfl)) rfl
theorem kw_3_124 : (Jvm.Cond.selects "ParishUnion" ({ cls := "ParishUnion", name := "settle", desc := "(IIII)I" } : Jvm.MethodName) ({ cls := "ParishUnion", name := "settle", desc := "(IIII)I" } : Jvm.MethodName)) ∈ gT := gT_of (tb_3 _ (List.mem_of_getElem? (i := 124) rfl)) rfl
theorem dL_law_831 : decode code 831 = .ok (.pop, 1) := dc_87 (by decide +kernel)
theorem dL_law_832 : decode code 832 = .ok (.aload_n 2, 1) := dc_44 (by decide +kernel)
theorem dL_law_833 : decode code 833 = .ok (.aload_n 0, 1) := dc_42 (by decide +kernel)
theorem dL_law_834 : decode code 834 = .ok (.iload_n 3, 1) := dc_29 (by decide +kernel)
theorem dL_law_835 : decode code 835 = .ok (.iconst 1, 1) := dc_4 (by decide +kernel)
theorem dL_law_836 : decode code 836 = .ok (.iadd, 1) := dc_96 (by decide +kernel)
theorem dL_law_837 : decode code 837 = .ok (.iaload, 1) := dc_46 (by decide +kernel)
theorem dL_law_838 : decode code 838 = .ok (.aload_n 0, 1) := dc_42 (by decide +kernel)
theorem dL_law_839 : decode code 839 = .ok (.iload_n 3, 1) := dc_29 (by decide +kernel)
theorem dL_law_840 : decode code 840 = .ok (.iconst 2, 1) := dc_5 (by decide +kernel)
theorem dL_law_841 : decode code 841 = .ok (.iadd, 1) := dc_96 (by decide +kernel)
theorem dL_law_842 : decode code 842 = .ok (.iaload, 1) := dc_46 (by decide +kernel)
theorem dL_law_843 : decode code 843 = .ok (.aload_n 0, 1) := dc_42 (by decide +kernel)
theorem dL_law_844 : decode code 844 = .ok (.iload_n 3, 1) := dc_29 (by decide +kernel)
theorem dL_law_845 : decode code 845 = .ok (.iconst 3, 1) := dc_6 (by decide +kernel)
theorem dL_law_846 : decode code 846 = .ok (.iadd, 1) := dc_96 (by decide +kernel)
theorem dL_law_847 : decode code 847 = .ok (.iaload, 1) := dc_46 (by decide +kernel)
theorem dL_law_848 : decode code 848 = .ok (.aload_n 0, 1) := dc_42 (by decide +kernel)
theorem dL_law_849 : decode code 849 = .ok (.iload_n 3, 1) := dc_29 (by decide +kernel)
theorem dL_law_850 : decode code 850 = .ok (.iconst 4, 1) := dc_7 (by decide +kernel)
theorem dL_law_851 : decode code 851 = .ok (.iadd, 1) := dc_96 (by decide +kernel)
theorem dL_law_852 : decode code 852 = .ok (.iaload, 1) := dc_46 (by decide +kernel)
theorem dL_law_853 : decode code 853 = .ok (.invokevirtual 68, 3) := dc_182 0 68 (by decide +kernel)
theorem kw_6_177 : (Jvm.Cond.methodLink "ParishUnionLaw" (68 : Nat) ({ cls := "ParishUnionModel", name := "settle", desc := "(IIII)I" } : Jvm.MethodName)) ∈ gT := gT_of (tb_6 _ (List.mem_of_getElem? (i := 177) rfl)) rfl
theorem kw_6_180 : (Jvm.Cond.code ({ cls := "ParishUnionModel", name := "settle", desc := "(IIII)I" } : Jvm.MethodName) prog_14_method_30_code (5 : Nat) (Option.some Jvm.ClassFile.FieldType.int)) ∈ gT := gT_of (tb_6 _ (List.mem_of_getElem? (i := 180) rfl)) rfl
theorem okX12_settle : gQok yX12_settle cX12_settle 5 (Option.some Jvm.ClassFile.FieldType.int) 4 := ⟨kw_6_180, kw_1_13, by decide +kernel, by decide +kernel, by decide +kernel⟩
theorem kw_6_178 : (Jvm.Cond.instanceMethod ({ cls := "ParishUnionModel", name := "settle", desc := "(IIII)I" } : Jvm.MethodName)) ∈ gT := gT_of (tb_6 _ (List.mem_of_getElem? (i := 178) rfl)) rfl
theorem kw_6_179 : (Jvm.Cond.selects "ParishUnionModel" ({ cls := "ParishUnionModel", name := "settle", desc := "(IIII)I" } : Jvm.MethodName) ({ cls := "ParishUnionModel", name := "settle", desc := "(IIII)I" } : Jvm.MethodName)) ∈ gT := gT_of (tb_6 _ (List.mem_of_getElem? (i := 179) rfl)) rfl
theorem dL_law_856 : decode code 856 = .ok (.pop, 1) := dc_87 (by decide +kernel)
theorem dL_law_857 : decode code 857 = .ok (.goto 1135, 3) := dc_167 4 111 1135 (by decide +kernel)
set_option maxRecDepth 100000 in
set_option maxHeartbeats 4000000 in
theorem law_case_11 {p : Program} {e : Env} {s : State} {m : MethodId} {below : List Frame} {meth : Method} {cd : Code} {l : Launch} {D : va_G} {cA : Nat → ClassId} {b Ln : Nat} {xs : Nat → Int32} (X : gCx p s m #[Value.ref b] meth cd s.heap.size D cA "ParishUnionLaw" code 4) (hr : meth.sig.returnType = ret) (hb : b < s.heap.size ∧ va_X b Ln xs s s.heap) (hLn : Ln ≤ 3584) {sz cs ss : Nat} {M : gM} (L : lwI sz cs ss M) (i : Int) (hi : 0 ≤ i ∧ i + 7 ≤ (Ln : Int)) (kk : ∀ (sz cs ss : Nat) (M1 : gM), lwI sz cs ss M1 → G p l e room_1 s m #[Value.ref b] below meth cd s.heap.size D cA 4 (lw_Z below #[Value.ref b] s) cs ss M1 sz 1992 [(3, gJ i), (2, gA s.heap.size 190), (1, gA s.heap.size 0), (0, .ref b)] []) : G p l e room_1 s m #[Value.ref b] below meth cd s.heap.size D cA 4 (lw_Z below #[Value.ref b] s) cs ss M sz 807 [(3, gJ i), (2, gA s.heap.size 190), (1, gA s.heap.size 0), (0, .ref b)] [] := by
  obtain ⟨hsz, I, C, W, LA, LB, LK, LR⟩ := L
  have hN := gN_of hsz I
  obtain ⟨ac, hac, rac⟩ : ∃ v : Int, M 1 13 = v ∧ (0 ≤ v ∧ v ≤ 10) := by
    obtain ⟨v, hv, rv⟩ := gRd I (by decide) (gsz hsz (by decide)) rc_1_13.1
    exact ⟨v, hv, by omega⟩
  obtain ⟨ab, hab, rab⟩ : ∃ v : Int, M 191 4 = v ∧ (0 ≤ v ∧ v ≤ 10) := by
    obtain ⟨v, hv, rv⟩ := gRd I (by decide) (gsz hsz (by decide)) (rs_NA (k := 4) (by omega)).1
    exact ⟨v, hv, by omega⟩
  have hRm : cs + 0 ≤ room_1.cells ∧ ss + 0 ≤ room_1.slots := by
    show cs + 0 ≤ 349274 ∧ ss + 0 ≤ 8054428
    have := lwK.room LK
    omega
  obtain ⟨u1, eu1, ru1⟩ : ∃ z : Int, xs (i + 1).toNat = Int32.ofInt z ∧ (-2147483648 ≤ z ∧ z ≤ 2147483647) := ⟨_, gi_of _, gi_rg _⟩
  obtain ⟨u2, eu2, ru2⟩ : ∃ z : Int, xs (i + 2).toNat = Int32.ofInt z ∧ (-2147483648 ≤ z ∧ z ≤ 2147483647) := ⟨_, gi_of _, gi_rg _⟩
  obtain ⟨u3, eu3, ru3⟩ : ∃ z : Int, xs (i + 3).toNat = Int32.ofInt z ∧ (-2147483648 ≤ z ∧ z ≤ 2147483647) := ⟨_, gi_of _, gi_rg _⟩
  obtain ⟨u4, eu4, ru4⟩ : ∃ z : Int, xs (i + 4).toNat = Int32.ofInt z ∧ (-2147483648 ≤ z ∧ z ≤ 2147483647) := ⟨_, gi_of _, gi_rg _⟩
  obtain ⟨u5, eu5, ru5⟩ : ∃ z : Int, xs (i + 5).toNat = Int32.ofInt z ∧ (-2147483648 ≤ z ∧ z ≤ 2147483647) := ⟨_, gi_of _, gi_rg _⟩
  obtain ⟨u6, eu6, ru6⟩ : ∃ z : Int, xs (i + 6).toNat = Int32.ofInt z ∧ (-2147483648 ≤ z ∧ z ≤ 2147483647) := ⟨_, gi_of _, gi_rg _⟩
  refine g_aload_n (n := 808) X 2 dL_law_807 rfl rfl rfl ?_
  refine g_aload_n (n := 809) X 3 dL_law_808 rfl rfl rfl ?_
  refine g_iload_n (n := 810) X 0 dL_law_809 rfl rfl rfl ?_
  refine g_iconst (n := 811) X dL_law_810 rfl ?_
  refine g_iadd (n := 812) (z := i + 1) X dL_law_811 (by omega) rfl ?_
  refine g_scrld (n := 813) (z := u1) X hb (by omega) (by omega) (by omega) dL_law_812 rfl eu1 ?_
  refine g_aload_n (n := 814) X 3 dL_law_813 rfl rfl rfl ?_
  refine g_iload_n (n := 815) X 0 dL_law_814 rfl rfl rfl ?_
  refine g_iconst (n := 816) X dL_law_815 rfl ?_
  refine g_iadd (n := 817) (z := i + 2) X dL_law_816 (by omega) rfl ?_
  refine g_scrld (n := 818) (z := u2) X hb (by omega) (by omega) (by omega) dL_law_817 rfl eu2 ?_
  refine g_aload_n (n := 819) X 3 dL_law_818 rfl rfl rfl ?_
  refine g_iload_n (n := 820) X 0 dL_law_819 rfl rfl rfl ?_
  refine g_iconst (n := 821) X dL_law_820 rfl ?_
  refine g_iadd (n := 822) (z := i + 3) X dL_law_821 (by omega) rfl ?_
  refine g_scrld (n := 823) (z := u3) X hb (by omega) (by omega) (by omega) dL_law_822 rfl eu3 ?_
  refine g_aload_n (n := 824) X 3 dL_law_823 rfl rfl rfl ?_
  refine g_iload_n (n := 825) X 0 dL_law_824 rfl rfl rfl ?_
  refine g_iconst (n := 826) X dL_law_825 rfl ?_
  refine g_iadd (n := 827) (z := i + 4) X dL_law_826 (by omega) rfl ?_
  refine g_scrld (n := 828) (z := u4) X hb (by omega) (by omega) (by omega) dL_law_827 rfl eu4 ?_
  refine g_callVi (n := 831) (As := [gJ u1, gJ u2, gJ u3, gJ u4]) (rest := []) (cs1 := cs) (ss1 := ss) X (s_X11_settle u1 (by omega) u2 (by omega) u3 (by omega) u4 (by omega) hsz I C ) okX11_settle kw_3_122 ⟨kw_3_123, kw_3_124⟩ ⟨rfl, rfl⟩ ⟨Nat.le_of_ble_eq_true rfl, Nat.le_of_ble_eq_true rfl⟩ rfl (by decide) (gsz hsz (by decide)) lay_0 rfl rfl (Nat.le_of_ble_eq_true rfl) hRm rfl rfl dL_law_828 rfl (fun v1 M2 P3 => ?_)
  obtain ⟨rv1, IM2, CM2, FM2⟩ := P3
  refine g_pop (n := 832) X dL_law_831 rfl rfl ?_
  refine g_aload_n (n := 833) X 1 dL_law_832 rfl rfl rfl ?_
  refine g_aload_n (n := 834) X 3 dL_law_833 rfl rfl rfl ?_
  refine g_iload_n (n := 835) X 0 dL_law_834 rfl rfl rfl ?_
  refine g_iconst (n := 836) X dL_law_835 rfl ?_
  refine g_iadd (n := 837) (z := i + 1) X dL_law_836 (by omega) rfl ?_
  refine g_scrld (n := 838) (z := u1) X hb (by omega) (by omega) (by omega) dL_law_837 rfl eu1 ?_
  refine g_aload_n (n := 839) X 3 dL_law_838 rfl rfl rfl ?_
  refine g_iload_n (n := 840) X 0 dL_law_839 rfl rfl rfl ?_
  refine g_iconst (n := 841) X dL_law_840 rfl ?_
  refine g_iadd (n := 842) (z := i + 2) X dL_law_841 (by omega) rfl ?_
  refine g_scrld (n := 843) (z := u2) X hb (by omega) (by omega) (by omega) dL_law_842 rfl eu2 ?_
  refine g_aload_n (n := 844) X 3 dL_law_843 rfl rfl rfl ?_
  refine g_iload_n (n := 845) X 0 dL_law_844 rfl rfl rfl ?_
  refine g_iconst (n := 846) X dL_law_845 rfl ?_
  refine g_iadd (n := 847) (z := i + 3) X dL_law_846 (by omega) rfl ?_
  refine g_scrld (n := 848) (z := u3) X hb (by omega) (by omega) (by omega) dL_law_847 rfl eu3 ?_
  refine g_aload_n (n := 849) X 3 dL_law_848 rfl rfl rfl ?_
  refine g_iload_n (n := 850) X 0 dL_law_849 rfl rfl rfl ?_
  refine g_iconst (n := 851) X dL_law_850 rfl ?_
  refine g_iadd (n := 852) (z := i + 4) X dL_law_851 (by omega) rfl ?_
  refine g_scrld (n := 853) (z := u4) X hb (by omega) (by omega) (by omega) dL_law_852 rfl eu4 ?_
  refine g_callVi (n := 856) (As := [gJ u1, gJ u2, gJ u3, gJ u4]) (rest := []) (cs1 := cs) (ss1 := ss) X (s_X12_settle u1 (by omega) u2 (by omega) u3 (by omega) u4 (by omega) hsz IM2 CM2 (gW.fr (S := 33554432) W ⟨sz, hsz, I⟩ (gFr.c gFr.rf FM2 rfl) rfl)) okX12_settle kw_6_177 ⟨kw_6_178, kw_6_179⟩ ⟨rfl, rfl⟩ ⟨Nat.le_of_ble_eq_true rfl, Nat.le_of_ble_eq_true rfl⟩ rfl (by decide) (gsz hsz (by decide)) lay_190 rfl rfl (Nat.le_of_ble_eq_true rfl) hRm rfl rfl dL_law_853 rfl (fun v4 M5 P6 => ?_)
  obtain ⟨rv4, IM5, CM5, FM5⟩ := P6
  refine g_pop (n := 857) X dL_law_856 rfl rfl ?_
  refine g_goto (tgt := 1992) X dL_law_857 (by decide) ?_
  exact kk _ _ _ _ ⟨hsz, IM5, CM5, (gW.fr (S := 2475880189251224992089112576) W ⟨sz, hsz, I⟩ (gFr.c (gFr.c gFr.rf FM2 rfl) FM5 rfl) rfl), (by rw [((gFr.at FM5 rc_1_13.2.2 rfl).trans (gFr.at FM2 rc_1_13.2.2 rfl))]; exact LA), (by rw [((gFr.at FM5 (rs_NA (k := 4) (by omega)).2.2 rfl).trans (gFr.at FM2 (rs_NA (k := 4) (by omega)).2.2 rfl))]; exact LB), (lwK.fr LK ((gFr.c (gFr.c gFr.rf FM2 rfl) FM5 rfl) : gFr 2475880189251224992089112576 M M5) rfl), ⟨(rl_now.fr (rl_now.fr LR.1 hN FM2 rfl) (gN_of hsz IM2) FM5 rfl), (rl_npers.fr (rl_npers.fr LR.2.1 hN FM2 rfl) (gN_of hsz IM2) FM5 rfl), (rl_sex.fr (rl_sex.fr LR.2.2.1 hN FM2 rfl) (gN_of hsz IM2) FM5 rfl), (rl_born.fr (rl_born.fr LR.2.2.2.1 hN FM2 rfl) (gN_of hsz IM2) FM5 rfl), (rl_nright.fr (rl_nright.fr LR.2.2.2.2.1 hN FM2 rfl) (gN_of hsz IM2) FM5 rfl), (rl_nent.fr (rl_nent.fr LR.2.2.2.2.2.1 hN FM2 rfl) (gN_of hsz IM2) FM5 rfl), (rl_rkind.fr (rl_rkind.fr LR.2.2.2.2.2.2.1 hN FM2 rfl) (gN_of hsz IM2) FM5 rfl), (rl_rwho.fr (rl_rwho.fr LR.2.2.2.2.2.2.2.1 hN FM2 rfl) (gN_of hsz IM2) FM5 rfl), (rl_rto.fr (rl_rto.fr LR.2.2.2.2.2.2.2.2.1 hN FM2 rfl) (gN_of hsz IM2) FM5 rfl), (rl_rn.fr (rl_rn.fr LR.2.2.2.2.2.2.2.2.2.1 hN FM2 rfl) (gN_of hsz IM2) FM5 rfl), (rl_rweek.fr (rl_rweek.fr LR.2.2.2.2.2.2.2.2.2.2.1 hN FM2 rfl) (gN_of hsz IM2) FM5 rfl), (rl_rsure.fr (rl_rsure.fr LR.2.2.2.2.2.2.2.2.2.2.2.1 hN FM2 rfl) (gN_of hsz IM2) FM5 rfl), (rl_proofs.fr (rl_proofs.fr LR.2.2.2.2.2.2.2.2.2.2.2.2 hN FM2 rfl) (gN_of hsz IM2) FM5 rfl)⟩⟩
theorem dL_law_860 : decode code 860 = .ok (.aload_n 1, 1) := dc_43 (by decide +kernel)
theorem dL_law_861 : decode code 861 = .ok (.aload_n 0, 1) := dc_42 (by decide +kernel)
theorem dL_law_862 : decode code 862 = .ok (.iload_n 3, 1) := dc_29 (by decide +kernel)
theorem dL_law_863 : decode code 863 = .ok (.iconst 1, 1) := dc_4 (by decide +kernel)
theorem dL_law_864 : decode code 864 = .ok (.iadd, 1) := dc_96 (by decide +kernel)
theorem dL_law_865 : decode code 865 = .ok (.iaload, 1) := dc_46 (by decide +kernel)
theorem dL_law_866 : decode code 866 = .ok (.aload_n 0, 1) := dc_42 (by decide +kernel)
theorem dL_law_867 : decode code 867 = .ok (.iload_n 3, 1) := dc_29 (by decide +kernel)
theorem dL_law_868 : decode code 868 = .ok (.iconst 2, 1) := dc_5 (by decide +kernel)
theorem dL_law_869 : decode code 869 = .ok (.iadd, 1) := dc_96 (by decide +kernel)
theorem dL_law_870 : decode code 870 = .ok (.iaload, 1) := dc_46 (by decide +kernel)
theorem dL_law_871 : decode code 871 = .ok (.aload_n 0, 1) := dc_42 (by decide +kernel)
theorem dL_law_872 : decode code 872 = .ok (.iload_n 3, 1) := dc_29 (by decide +kernel)
theorem dL_law_873 : decode code 873 = .ok (.iconst 3, 1) := dc_6 (by decide +kernel)
theorem dL_law_874 : decode code 874 = .ok (.iadd, 1) := dc_96 (by decide +kernel)
theorem dL_law_875 : decode code 875 = .ok (.iaload, 1) := dc_46 (by decide +kernel)
theorem dL_law_876 : decode code 876 = .ok (.aload_n 0, 1) := dc_42 (by decide +kernel)
theorem dL_law_877 : decode code 877 = .ok (.iload_n 3, 1) := dc_29 (by decide +kernel)
theorem dL_law_878 : decode code 878 = .ok (.iconst 4, 1) := dc_7 (by decide +kernel)
theorem dL_law_879 : decode code 879 = .ok (.iadd, 1) := dc_96 (by decide +kernel)
theorem dL_law_880 : decode code 880 = .ok (.iaload, 1) := dc_46 (by decide +kernel)
theorem dL_law_881 : decode code 881 = .ok (.invokevirtual 69, 3) := dc_182 0 69 (by decide +kernel)
theorem kw_3_168 : (Jvm.Cond.methodLink "ParishUnionLaw" (69 : Nat) ({ cls := "ParishUnion", name := "maybe", desc := "(IIII)I" } : Jvm.MethodName)) ∈ gT := gT_of (tb_3 _ (List.mem_of_getElem? (i := 168) rfl)) rfl
theorem kw_3_171 : (Jvm.Cond.code ({ cls := "ParishUnion", name := "maybe", desc := "(IIII)I" } : Jvm.MethodName) prog_1_method_14_code (5 : Nat) (Option.some Jvm.ClassFile.FieldType.int)) ∈ gT := gT_of (tb_3 _ (List.mem_of_getElem? (i := 171) rfl)) rfl
theorem okX11_maybe : gQok yX11_maybe cX11_maybe 5 (Option.some Jvm.ClassFile.FieldType.int) 4 := ⟨kw_3_171, kw_1_1, by decide +kernel, by decide +kernel, by decide +kernel⟩
theorem kw_3_169 : (Jvm.Cond.instanceMethod ({ cls := "ParishUnion", name := "maybe", desc := "(IIII)I" } : Jvm.MethodName)) ∈ gT := gT_of (tb_3 _ (List.mem_of_getElem? (i := 169) rfl)) rfl
theorem kw_3_170 : (Jvm.Cond.selects "ParishUnion" ({ cls := "ParishUnion", name := "maybe", desc := "(IIII)I" } : Jvm.MethodName) ({ cls := "ParishUnion", name := "maybe", desc := "(IIII)I" } : Jvm.MethodName)) ∈ gT := gT_of (tb_3 _ (List.mem_of_getElem? (i := 170) rfl)) rfl
theorem dL_law_884 : decode code 884 = .ok (.pop, 1) := dc_87 (by decide +kernel)
theorem dL_law_885 : decode code 885 = .ok (.aload_n 2, 1) := dc_44 (by decide +kernel)
theorem dL_law_886 : decode code 886 = .ok (.aload_n 0, 1) := dc_42 (by decide +kernel)
theorem dL_law_887 : decode code 887 = .ok (.iload_n 3, 1) := dc_29 (by decide +kernel)
theorem dL_law_888 : decode code 888 = .ok (.iconst 1, 1) := dc_4 (by decide +kernel)
theorem dL_law_889 : decode code 889 = .ok (.iadd, 1) := dc_96 (by decide +kernel)
theorem dL_law_890 : decode code 890 = .ok (.iaload, 1) := dc_46 (by decide +kernel)
theorem dL_law_891 : decode code 891 = .ok (.aload_n 0, 1) := dc_42 (by decide +kernel)
theorem dL_law_892 : decode code 892 = .ok (.iload_n 3, 1) := dc_29 (by decide +kernel)
theorem dL_law_893 : decode code 893 = .ok (.iconst 2, 1) := dc_5 (by decide +kernel)
theorem dL_law_894 : decode code 894 = .ok (.iadd, 1) := dc_96 (by decide +kernel)
theorem dL_law_895 : decode code 895 = .ok (.iaload, 1) := dc_46 (by decide +kernel)
theorem dL_law_896 : decode code 896 = .ok (.aload_n 0, 1) := dc_42 (by decide +kernel)
theorem dL_law_897 : decode code 897 = .ok (.iload_n 3, 1) := dc_29 (by decide +kernel)
theorem dL_law_898 : decode code 898 = .ok (.iconst 3, 1) := dc_6 (by decide +kernel)
theorem dL_law_899 : decode code 899 = .ok (.iadd, 1) := dc_96 (by decide +kernel)
theorem dL_law_900 : decode code 900 = .ok (.iaload, 1) := dc_46 (by decide +kernel)
theorem dL_law_901 : decode code 901 = .ok (.aload_n 0, 1) := dc_42 (by decide +kernel)
theorem dL_law_902 : decode code 902 = .ok (.iload_n 3, 1) := dc_29 (by decide +kernel)
theorem dL_law_903 : decode code 903 = .ok (.iconst 4, 1) := dc_7 (by decide +kernel)
theorem dL_law_904 : decode code 904 = .ok (.iadd, 1) := dc_96 (by decide +kernel)
theorem dL_law_905 : decode code 905 = .ok (.iaload, 1) := dc_46 (by decide +kernel)
theorem dL_law_906 : decode code 906 = .ok (.invokevirtual 72, 3) := dc_182 0 72 (by decide +kernel)
theorem kw_6_216 : (Jvm.Cond.methodLink "ParishUnionLaw" (72 : Nat) ({ cls := "ParishUnionModel", name := "maybe", desc := "(IIII)I" } : Jvm.MethodName)) ∈ gT := gT_of (tb_6 _ (List.mem_of_getElem? (i := 216) rfl)) rfl
theorem kw_6_219 : (Jvm.Cond.code ({ cls := "ParishUnionModel", name := "maybe", desc := "(IIII)I" } : Jvm.MethodName) prog_14_method_33_code (13 : Nat) (Option.some Jvm.ClassFile.FieldType.int)) ∈ gT := gT_of (tb_6 _ (List.mem_of_getElem? (i := 219) rfl)) rfl
theorem okX12_maybe : gQok yX12_maybe cX12_maybe 13 (Option.some Jvm.ClassFile.FieldType.int) 4 := ⟨kw_6_219, kw_1_13, by decide +kernel, by decide +kernel, by decide +kernel⟩
theorem kw_6_217 : (Jvm.Cond.instanceMethod ({ cls := "ParishUnionModel", name := "maybe", desc := "(IIII)I" } : Jvm.MethodName)) ∈ gT := gT_of (tb_6 _ (List.mem_of_getElem? (i := 217) rfl)) rfl
theorem kw_6_218 : (Jvm.Cond.selects "ParishUnionModel" ({ cls := "ParishUnionModel", name := "maybe", desc := "(IIII)I" } : Jvm.MethodName) ({ cls := "ParishUnionModel", name := "maybe", desc := "(IIII)I" } : Jvm.MethodName)) ∈ gT := gT_of (tb_6 _ (List.mem_of_getElem? (i := 218) rfl)) rfl
theorem dL_law_909 : decode code 909 = .ok (.pop, 1) := dc_87 (by decide +kernel)
theorem dL_law_910 : decode code 910 = .ok (.goto 1082, 3) := dc_167 4 58 1082 (by decide +kernel)
set_option maxRecDepth 100000 in
set_option maxHeartbeats 4000000 in
theorem law_case_12 {p : Program} {e : Env} {s : State} {m : MethodId} {below : List Frame} {meth : Method} {cd : Code} {l : Launch} {D : va_G} {cA : Nat → ClassId} {b Ln : Nat} {xs : Nat → Int32} (X : gCx p s m #[Value.ref b] meth cd s.heap.size D cA "ParishUnionLaw" code 4) (hr : meth.sig.returnType = ret) (hb : b < s.heap.size ∧ va_X b Ln xs s s.heap) (hLn : Ln ≤ 3584) {sz cs ss : Nat} {M : gM} (L : lwI sz cs ss M) (i : Int) (hi : 0 ≤ i ∧ i + 7 ≤ (Ln : Int)) (kk : ∀ (sz cs ss : Nat) (M1 : gM), lwI sz cs ss M1 → G p l e room_1 s m #[Value.ref b] below meth cd s.heap.size D cA 4 (lw_Z below #[Value.ref b] s) cs ss M1 sz 1992 [(3, gJ i), (2, gA s.heap.size 190), (1, gA s.heap.size 0), (0, .ref b)] []) : G p l e room_1 s m #[Value.ref b] below meth cd s.heap.size D cA 4 (lw_Z below #[Value.ref b] s) cs ss M sz 860 [(3, gJ i), (2, gA s.heap.size 190), (1, gA s.heap.size 0), (0, .ref b)] [] := by
  obtain ⟨hsz, I, C, W, LA, LB, LK, LR⟩ := L
  have hN := gN_of hsz I
  obtain ⟨ac, hac, rac⟩ : ∃ v : Int, M 1 13 = v ∧ (0 ≤ v ∧ v ≤ 10) := by
    obtain ⟨v, hv, rv⟩ := gRd I (by decide) (gsz hsz (by decide)) rc_1_13.1
    exact ⟨v, hv, by omega⟩
  obtain ⟨ab, hab, rab⟩ : ∃ v : Int, M 191 4 = v ∧ (0 ≤ v ∧ v ≤ 10) := by
    obtain ⟨v, hv, rv⟩ := gRd I (by decide) (gsz hsz (by decide)) (rs_NA (k := 4) (by omega)).1
    exact ⟨v, hv, by omega⟩
  have hRm : cs + 0 ≤ room_1.cells ∧ ss + 0 ≤ room_1.slots := by
    show cs + 0 ≤ 349274 ∧ ss + 0 ≤ 8054428
    have := lwK.room LK
    omega
  obtain ⟨u1, eu1, ru1⟩ : ∃ z : Int, xs (i + 1).toNat = Int32.ofInt z ∧ (-2147483648 ≤ z ∧ z ≤ 2147483647) := ⟨_, gi_of _, gi_rg _⟩
  obtain ⟨u2, eu2, ru2⟩ : ∃ z : Int, xs (i + 2).toNat = Int32.ofInt z ∧ (-2147483648 ≤ z ∧ z ≤ 2147483647) := ⟨_, gi_of _, gi_rg _⟩
  obtain ⟨u3, eu3, ru3⟩ : ∃ z : Int, xs (i + 3).toNat = Int32.ofInt z ∧ (-2147483648 ≤ z ∧ z ≤ 2147483647) := ⟨_, gi_of _, gi_rg _⟩
  obtain ⟨u4, eu4, ru4⟩ : ∃ z : Int, xs (i + 4).toNat = Int32.ofInt z ∧ (-2147483648 ≤ z ∧ z ≤ 2147483647) := ⟨_, gi_of _, gi_rg _⟩
  obtain ⟨u5, eu5, ru5⟩ : ∃ z : Int, xs (i + 5).toNat = Int32.ofInt z ∧ (-2147483648 ≤ z ∧ z ≤ 2147483647) := ⟨_, gi_of _, gi_rg _⟩
  obtain ⟨u6, eu6, ru6⟩ : ∃ z : Int, xs (i + 6).toNat = Int32.ofInt z ∧ (-2147483648 ≤ z ∧ z ≤ 2147483647) := ⟨_, gi_of _, gi_rg _⟩
  refine g_aload_n (n := 861) X 2 dL_law_860 rfl rfl rfl ?_
  refine g_aload_n (n := 862) X 3 dL_law_861 rfl rfl rfl ?_
  refine g_iload_n (n := 863) X 0 dL_law_862 rfl rfl rfl ?_
  refine g_iconst (n := 864) X dL_law_863 rfl ?_
  refine g_iadd (n := 865) (z := i + 1) X dL_law_864 (by omega) rfl ?_
  refine g_scrld (n := 866) (z := u1) X hb (by omega) (by omega) (by omega) dL_law_865 rfl eu1 ?_
  refine g_aload_n (n := 867) X 3 dL_law_866 rfl rfl rfl ?_
  refine g_iload_n (n := 868) X 0 dL_law_867 rfl rfl rfl ?_
  refine g_iconst (n := 869) X dL_law_868 rfl ?_
  refine g_iadd (n := 870) (z := i + 2) X dL_law_869 (by omega) rfl ?_
  refine g_scrld (n := 871) (z := u2) X hb (by omega) (by omega) (by omega) dL_law_870 rfl eu2 ?_
  refine g_aload_n (n := 872) X 3 dL_law_871 rfl rfl rfl ?_
  refine g_iload_n (n := 873) X 0 dL_law_872 rfl rfl rfl ?_
  refine g_iconst (n := 874) X dL_law_873 rfl ?_
  refine g_iadd (n := 875) (z := i + 3) X dL_law_874 (by omega) rfl ?_
  refine g_scrld (n := 876) (z := u3) X hb (by omega) (by omega) (by omega) dL_law_875 rfl eu3 ?_
  refine g_aload_n (n := 877) X 3 dL_law_876 rfl rfl rfl ?_
  refine g_iload_n (n := 878) X 0 dL_law_877 rfl rfl rfl ?_
  refine g_iconst (n := 879) X dL_law_878 rfl ?_
  refine g_iadd (n := 880) (z := i + 4) X dL_law_879 (by omega) rfl ?_
  refine g_scrld (n := 881) (z := u4) X hb (by omega) (by omega) (by omega) dL_law_880 rfl eu4 ?_
  refine g_callVi (n := 884) (As := [gJ u1, gJ u2, gJ u3, gJ u4]) (rest := []) (cs1 := cs) (ss1 := ss) X (s_X11_maybe u1 (by omega) u2 (by omega) u3 (by omega) u4 (by omega) hsz I C ) okX11_maybe kw_3_168 ⟨kw_3_169, kw_3_170⟩ ⟨rfl, rfl⟩ ⟨Nat.le_of_ble_eq_true rfl, Nat.le_of_ble_eq_true rfl⟩ rfl (by decide) (gsz hsz (by decide)) lay_0 rfl rfl (Nat.le_of_ble_eq_true rfl) hRm rfl rfl dL_law_881 rfl (fun v1 M2 P3 => ?_)
  obtain ⟨rv1, IM2, CM2, FM2⟩ := P3
  refine g_pop (n := 885) X dL_law_884 rfl rfl ?_
  refine g_aload_n (n := 886) X 1 dL_law_885 rfl rfl rfl ?_
  refine g_aload_n (n := 887) X 3 dL_law_886 rfl rfl rfl ?_
  refine g_iload_n (n := 888) X 0 dL_law_887 rfl rfl rfl ?_
  refine g_iconst (n := 889) X dL_law_888 rfl ?_
  refine g_iadd (n := 890) (z := i + 1) X dL_law_889 (by omega) rfl ?_
  refine g_scrld (n := 891) (z := u1) X hb (by omega) (by omega) (by omega) dL_law_890 rfl eu1 ?_
  refine g_aload_n (n := 892) X 3 dL_law_891 rfl rfl rfl ?_
  refine g_iload_n (n := 893) X 0 dL_law_892 rfl rfl rfl ?_
  refine g_iconst (n := 894) X dL_law_893 rfl ?_
  refine g_iadd (n := 895) (z := i + 2) X dL_law_894 (by omega) rfl ?_
  refine g_scrld (n := 896) (z := u2) X hb (by omega) (by omega) (by omega) dL_law_895 rfl eu2 ?_
  refine g_aload_n (n := 897) X 3 dL_law_896 rfl rfl rfl ?_
  refine g_iload_n (n := 898) X 0 dL_law_897 rfl rfl rfl ?_
  refine g_iconst (n := 899) X dL_law_898 rfl ?_
  refine g_iadd (n := 900) (z := i + 3) X dL_law_899 (by omega) rfl ?_
  refine g_scrld (n := 901) (z := u3) X hb (by omega) (by omega) (by omega) dL_law_900 rfl eu3 ?_
  refine g_aload_n (n := 902) X 3 dL_law_901 rfl rfl rfl ?_
  refine g_iload_n (n := 903) X 0 dL_law_902 rfl rfl rfl ?_
  refine g_iconst (n := 904) X dL_law_903 rfl ?_
  refine g_iadd (n := 905) (z := i + 4) X dL_law_904 (by omega) rfl ?_
  refine g_scrld (n := 906) (z := u4) X hb (by omega) (by omega) (by omega) dL_law_905 rfl eu4 ?_
  refine g_callVi (n := 909) (As := [gJ u1, gJ u2, gJ u3, gJ u4]) (rest := []) (cs1 := cs) (ss1 := ss) X (s_X12_maybe u1 (by omega) u2 (by omega) u3 (by omega) u4 (by omega) hsz IM2 CM2 (gW.fr (S := 33554432) W ⟨sz, hsz, I⟩ (gFr.c gFr.rf FM2 rfl) rfl)) okX12_maybe kw_6_216 ⟨kw_6_217, kw_6_218⟩ ⟨rfl, rfl⟩ ⟨Nat.le_of_ble_eq_true rfl, Nat.le_of_ble_eq_true rfl⟩ rfl (by decide) (gsz hsz (by decide)) lay_190 rfl rfl (Nat.le_of_ble_eq_true rfl) hRm rfl rfl dL_law_906 rfl (fun v4 M5 P6 => ?_)
  obtain ⟨rv4, IM5, CM5, FM5⟩ := P6
  refine g_pop (n := 910) X dL_law_909 rfl rfl ?_
  refine g_goto (tgt := 1992) X dL_law_910 (by decide) ?_
  exact kk _ _ _ _ ⟨hsz, IM5, CM5, (gW.fr (S := 2475880189251224992089112576) W ⟨sz, hsz, I⟩ (gFr.c (gFr.c gFr.rf FM2 rfl) FM5 rfl) rfl), (by rw [((gFr.at FM5 rc_1_13.2.2 rfl).trans (gFr.at FM2 rc_1_13.2.2 rfl))]; exact LA), (by rw [((gFr.at FM5 (rs_NA (k := 4) (by omega)).2.2 rfl).trans (gFr.at FM2 (rs_NA (k := 4) (by omega)).2.2 rfl))]; exact LB), (lwK.fr LK ((gFr.c (gFr.c gFr.rf FM2 rfl) FM5 rfl) : gFr 2475880189251224992089112576 M M5) rfl), ⟨(rl_now.fr (rl_now.fr LR.1 hN FM2 rfl) (gN_of hsz IM2) FM5 rfl), (rl_npers.fr (rl_npers.fr LR.2.1 hN FM2 rfl) (gN_of hsz IM2) FM5 rfl), (rl_sex.fr (rl_sex.fr LR.2.2.1 hN FM2 rfl) (gN_of hsz IM2) FM5 rfl), (rl_born.fr (rl_born.fr LR.2.2.2.1 hN FM2 rfl) (gN_of hsz IM2) FM5 rfl), (rl_nright.fr (rl_nright.fr LR.2.2.2.2.1 hN FM2 rfl) (gN_of hsz IM2) FM5 rfl), (rl_nent.fr (rl_nent.fr LR.2.2.2.2.2.1 hN FM2 rfl) (gN_of hsz IM2) FM5 rfl), (rl_rkind.fr (rl_rkind.fr LR.2.2.2.2.2.2.1 hN FM2 rfl) (gN_of hsz IM2) FM5 rfl), (rl_rwho.fr (rl_rwho.fr LR.2.2.2.2.2.2.2.1 hN FM2 rfl) (gN_of hsz IM2) FM5 rfl), (rl_rto.fr (rl_rto.fr LR.2.2.2.2.2.2.2.2.1 hN FM2 rfl) (gN_of hsz IM2) FM5 rfl), (rl_rn.fr (rl_rn.fr LR.2.2.2.2.2.2.2.2.2.1 hN FM2 rfl) (gN_of hsz IM2) FM5 rfl), (rl_rweek.fr (rl_rweek.fr LR.2.2.2.2.2.2.2.2.2.2.1 hN FM2 rfl) (gN_of hsz IM2) FM5 rfl), (rl_rsure.fr (rl_rsure.fr LR.2.2.2.2.2.2.2.2.2.2.2.1 hN FM2 rfl) (gN_of hsz IM2) FM5 rfl), (rl_proofs.fr (rl_proofs.fr LR.2.2.2.2.2.2.2.2.2.2.2.2 hN FM2 rfl) (gN_of hsz IM2) FM5 rfl)⟩⟩
theorem dL_law_913 : decode code 913 = .ok (.aload_n 1, 1) := dc_43 (by decide +kernel)
theorem dL_law_914 : decode code 914 = .ok (.aload_n 0, 1) := dc_42 (by decide +kernel)
theorem dL_law_915 : decode code 915 = .ok (.iload_n 3, 1) := dc_29 (by decide +kernel)
theorem dL_law_916 : decode code 916 = .ok (.iconst 1, 1) := dc_4 (by decide +kernel)
theorem dL_law_917 : decode code 917 = .ok (.iadd, 1) := dc_96 (by decide +kernel)
theorem dL_law_918 : decode code 918 = .ok (.iaload, 1) := dc_46 (by decide +kernel)
theorem dL_law_919 : decode code 919 = .ok (.i2l, 1) := dc_133 (by decide +kernel)
theorem dL_law_920 : decode code 920 = .ok (.bipush 32, 2) := dc_16 32 32 (by decide +kernel)
theorem dL_law_922 : decode code 922 = .ok (.lshl, 1) := dc_121 (by decide +kernel)
theorem dL_law_923 : decode code 923 = .ok (.aload_n 0, 1) := dc_42 (by decide +kernel)
theorem dL_law_924 : decode code 924 = .ok (.iload_n 3, 1) := dc_29 (by decide +kernel)
theorem dL_law_925 : decode code 925 = .ok (.iconst 2, 1) := dc_5 (by decide +kernel)
theorem dL_law_926 : decode code 926 = .ok (.iadd, 1) := dc_96 (by decide +kernel)
theorem dL_law_927 : decode code 927 = .ok (.iaload, 1) := dc_46 (by decide +kernel)
theorem dL_law_928 : decode code 928 = .ok (.i2l, 1) := dc_133 (by decide +kernel)
theorem dL_law_929 : decode code 929 = .ok (.ldc2_w 73, 3) := dc_20 0 73 (by decide +kernel)
theorem kw_8_53 : (Jvm.Cond.constantLong "ParishUnionLaw" (73 : Nat) (4294967295 : Int64)) ∈ gT := gT_of (tb_8 _ (List.mem_of_getElem? (i := 53) rfl)) rfl
theorem dL_law_932 : decode code 932 = .ok (.land, 1) := dc_127 (by decide +kernel)
theorem dL_law_933 : decode code 933 = .ok (.lor, 1) := dc_129 (by decide +kernel)
theorem dL_law_934 : decode code 934 = .ok (.aload_n 0, 1) := dc_42 (by decide +kernel)
theorem dL_law_935 : decode code 935 = .ok (.iload_n 3, 1) := dc_29 (by decide +kernel)
theorem dL_law_936 : decode code 936 = .ok (.iconst 3, 1) := dc_6 (by decide +kernel)
theorem dL_law_937 : decode code 937 = .ok (.iadd, 1) := dc_96 (by decide +kernel)
theorem dL_law_938 : decode code 938 = .ok (.iaload, 1) := dc_46 (by decide +kernel)
theorem dL_law_939 : decode code 939 = .ok (.invokevirtual 75, 3) := dc_182 0 75 (by decide +kernel)
theorem kw_3_191 : (Jvm.Cond.methodLink "ParishUnionLaw" (75 : Nat) ({ cls := "ParishUnion", name := "feed", desc := "(JI)I" } : Jvm.MethodName)) ∈ gT := gT_of (tb_3 _ (List.mem_of_getElem? (i := 191) rfl)) rfl
theorem kw_3_194 : (Jvm.Cond.code ({ cls := "ParishUnion", name := "feed", desc := "(JI)I" } : Jvm.MethodName) prog_1_method_15_code (5 : Nat) (Option.some Jvm.ClassFile.FieldType.int)) ∈ gT := gT_of (tb_3 _ (List.mem_of_getElem? (i := 194) rfl)) rfl
theorem okX11_feed : gQok yX11_feed cX11_feed 5 (Option.some Jvm.ClassFile.FieldType.int) 2 := ⟨kw_3_194, kw_1_1, by decide +kernel, by decide +kernel, by decide +kernel⟩
theorem kw_3_192 : (Jvm.Cond.instanceMethod ({ cls := "ParishUnion", name := "feed", desc := "(JI)I" } : Jvm.MethodName)) ∈ gT := gT_of (tb_3 _ (List.mem_of_getElem? (i := 192) rfl)) rfl
theorem kw_3_193 : (Jvm.Cond.selects "ParishUnion" ({ cls := "ParishUnion", name := "feed", desc := "(JI)I" } : Jvm.MethodName) ({ cls := "ParishUnion", name := "feed", desc := "(JI)I" } : Jvm.MethodName)) ∈ gT := gT_of (tb_3 _ (List.mem_of_getElem? (i := 193) rfl)) rfl
theorem dL_law_942 : decode code 942 = .ok (.pop, 1) := dc_87 (by decide +kernel)
theorem dL_law_943 : decode code 943 = .ok (.aload_n 2, 1) := dc_44 (by decide +kernel)
theorem dL_law_944 : decode code 944 = .ok (.aload_n 0, 1) := dc_42 (by decide +kernel)
theorem dL_law_945 : decode code 945 = .ok (.iload_n 3, 1) := dc_29 (by decide +kernel)
theorem dL_law_946 : decode code 946 = .ok (.iconst 1, 1) := dc_4 (by decide +kernel)
theorem dL_law_947 : decode code 947 = .ok (.iadd, 1) := dc_96 (by decide +kernel)
theorem dL_law_948 : decode code 948 = .ok (.iaload, 1) := dc_46 (by decide +kernel)
theorem dL_law_949 : decode code 949 = .ok (.i2l, 1) := dc_133 (by decide +kernel)
theorem dL_law_950 : decode code 950 = .ok (.bipush 32, 2) := dc_16 32 32 (by decide +kernel)
theorem dL_law_952 : decode code 952 = .ok (.lshl, 1) := dc_121 (by decide +kernel)
theorem dL_law_953 : decode code 953 = .ok (.aload_n 0, 1) := dc_42 (by decide +kernel)
theorem dL_law_954 : decode code 954 = .ok (.iload_n 3, 1) := dc_29 (by decide +kernel)
theorem dL_law_955 : decode code 955 = .ok (.iconst 2, 1) := dc_5 (by decide +kernel)
theorem dL_law_956 : decode code 956 = .ok (.iadd, 1) := dc_96 (by decide +kernel)
theorem dL_law_957 : decode code 957 = .ok (.iaload, 1) := dc_46 (by decide +kernel)
theorem dL_law_958 : decode code 958 = .ok (.i2l, 1) := dc_133 (by decide +kernel)
theorem dL_law_959 : decode code 959 = .ok (.ldc2_w 73, 3) := dc_20 0 73 (by decide +kernel)
theorem dL_law_962 : decode code 962 = .ok (.land, 1) := dc_127 (by decide +kernel)
theorem dL_law_963 : decode code 963 = .ok (.lor, 1) := dc_129 (by decide +kernel)
theorem dL_law_964 : decode code 964 = .ok (.aload_n 0, 1) := dc_42 (by decide +kernel)
theorem dL_law_965 : decode code 965 = .ok (.iload_n 3, 1) := dc_29 (by decide +kernel)
theorem dL_law_966 : decode code 966 = .ok (.iconst 3, 1) := dc_6 (by decide +kernel)
theorem dL_law_967 : decode code 967 = .ok (.iadd, 1) := dc_96 (by decide +kernel)
theorem dL_law_968 : decode code 968 = .ok (.iaload, 1) := dc_46 (by decide +kernel)
theorem dL_law_969 : decode code 969 = .ok (.invokevirtual 79, 3) := dc_182 0 79 (by decide +kernel)
theorem kw_6_227 : (Jvm.Cond.methodLink "ParishUnionLaw" (79 : Nat) ({ cls := "ParishUnionModel", name := "feed", desc := "(JI)I" } : Jvm.MethodName)) ∈ gT := gT_of (tb_6 _ (List.mem_of_getElem? (i := 227) rfl)) rfl
theorem kw_6_230 : (Jvm.Cond.code ({ cls := "ParishUnionModel", name := "feed", desc := "(JI)I" } : Jvm.MethodName) prog_14_method_34_code (5 : Nat) (Option.some Jvm.ClassFile.FieldType.int)) ∈ gT := gT_of (tb_6 _ (List.mem_of_getElem? (i := 230) rfl)) rfl
theorem okX12_feed : gQok yX12_feed cX12_feed 5 (Option.some Jvm.ClassFile.FieldType.int) 2 := ⟨kw_6_230, kw_1_13, by decide +kernel, by decide +kernel, by decide +kernel⟩
theorem kw_6_228 : (Jvm.Cond.instanceMethod ({ cls := "ParishUnionModel", name := "feed", desc := "(JI)I" } : Jvm.MethodName)) ∈ gT := gT_of (tb_6 _ (List.mem_of_getElem? (i := 228) rfl)) rfl
theorem kw_6_229 : (Jvm.Cond.selects "ParishUnionModel" ({ cls := "ParishUnionModel", name := "feed", desc := "(JI)I" } : Jvm.MethodName) ({ cls := "ParishUnionModel", name := "feed", desc := "(JI)I" } : Jvm.MethodName)) ∈ gT := gT_of (tb_6 _ (List.mem_of_getElem? (i := 229) rfl)) rfl
theorem dL_law_972 : decode code 972 = .ok (.pop, 1) := dc_87 (by decide +kernel)
theorem dL_law_973 : decode code 973 = .ok (.goto 1019, 3) := dc_167 3 251 1019 (by decide +kernel)
set_option maxRecDepth 100000 in
set_option maxHeartbeats 4000000 in
theorem law_case_13 {p : Program} {e : Env} {s : State} {m : MethodId} {below : List Frame} {meth : Method} {cd : Code} {l : Launch} {D : va_G} {cA : Nat → ClassId} {b Ln : Nat} {xs : Nat → Int32} (X : gCx p s m #[Value.ref b] meth cd s.heap.size D cA "ParishUnionLaw" code 4) (hr : meth.sig.returnType = ret) (hb : b < s.heap.size ∧ va_X b Ln xs s s.heap) (hLn : Ln ≤ 3584) {sz cs ss : Nat} {M : gM} (L : lwI sz cs ss M) (i : Int) (hi : 0 ≤ i ∧ i + 7 ≤ (Ln : Int)) (kk : ∀ (sz cs ss : Nat) (M1 : gM), lwI sz cs ss M1 → G p l e room_1 s m #[Value.ref b] below meth cd s.heap.size D cA 4 (lw_Z below #[Value.ref b] s) cs ss M1 sz 1992 [(3, gJ i), (2, gA s.heap.size 190), (1, gA s.heap.size 0), (0, .ref b)] []) : G p l e room_1 s m #[Value.ref b] below meth cd s.heap.size D cA 4 (lw_Z below #[Value.ref b] s) cs ss M sz 913 [(3, gJ i), (2, gA s.heap.size 190), (1, gA s.heap.size 0), (0, .ref b)] [] := by
  obtain ⟨hsz, I, C, W, LA, LB, LK, LR⟩ := L
  have hN := gN_of hsz I
  obtain ⟨ac, hac, rac⟩ : ∃ v : Int, M 1 13 = v ∧ (0 ≤ v ∧ v ≤ 10) := by
    obtain ⟨v, hv, rv⟩ := gRd I (by decide) (gsz hsz (by decide)) rc_1_13.1
    exact ⟨v, hv, by omega⟩
  obtain ⟨ab, hab, rab⟩ : ∃ v : Int, M 191 4 = v ∧ (0 ≤ v ∧ v ≤ 10) := by
    obtain ⟨v, hv, rv⟩ := gRd I (by decide) (gsz hsz (by decide)) (rs_NA (k := 4) (by omega)).1
    exact ⟨v, hv, by omega⟩
  have hRm : cs + 0 ≤ room_1.cells ∧ ss + 0 ≤ room_1.slots := by
    show cs + 0 ≤ 349274 ∧ ss + 0 ≤ 8054428
    have := lwK.room LK
    omega
  obtain ⟨u1, eu1, ru1⟩ : ∃ z : Int, xs (i + 1).toNat = Int32.ofInt z ∧ (-2147483648 ≤ z ∧ z ≤ 2147483647) := ⟨_, gi_of _, gi_rg _⟩
  obtain ⟨u2, eu2, ru2⟩ : ∃ z : Int, xs (i + 2).toNat = Int32.ofInt z ∧ (-2147483648 ≤ z ∧ z ≤ 2147483647) := ⟨_, gi_of _, gi_rg _⟩
  obtain ⟨u3, eu3, ru3⟩ : ∃ z : Int, xs (i + 3).toNat = Int32.ofInt z ∧ (-2147483648 ≤ z ∧ z ≤ 2147483647) := ⟨_, gi_of _, gi_rg _⟩
  obtain ⟨u4, eu4, ru4⟩ : ∃ z : Int, xs (i + 4).toNat = Int32.ofInt z ∧ (-2147483648 ≤ z ∧ z ≤ 2147483647) := ⟨_, gi_of _, gi_rg _⟩
  obtain ⟨u5, eu5, ru5⟩ : ∃ z : Int, xs (i + 5).toNat = Int32.ofInt z ∧ (-2147483648 ≤ z ∧ z ≤ 2147483647) := ⟨_, gi_of _, gi_rg _⟩
  obtain ⟨u6, eu6, ru6⟩ : ∃ z : Int, xs (i + 6).toNat = Int32.ofInt z ∧ (-2147483648 ≤ z ∧ z ≤ 2147483647) := ⟨_, gi_of _, gi_rg _⟩
  refine g_aload_n (n := 914) X 2 dL_law_913 rfl rfl rfl ?_
  refine g_aload_n (n := 915) X 3 dL_law_914 rfl rfl rfl ?_
  refine g_iload_n (n := 916) X 0 dL_law_915 rfl rfl rfl ?_
  refine g_iconst (n := 917) X dL_law_916 rfl ?_
  refine g_iadd (n := 918) (z := i + 1) X dL_law_917 (by omega) rfl ?_
  refine g_scrld (n := 919) (z := u1) X hb (by omega) (by omega) (by omega) dL_law_918 rfl eu1 ?_
  refine g_i2lE (n := 920) (z := u1) X dL_law_919 (g_i2l (by omega)) rfl ?_
  refine g_bipush (n := 922) X dL_law_920 (by decide +kernel) rfl ?_
  refine g_lshlA (n := 923) X dL_law_922 rfl (fun v1 rv1 xv1 => ?_)
  clear xv1
  refine g_aload_n (n := 924) X 3 dL_law_923 rfl rfl rfl ?_
  refine g_iload_n (n := 925) X 0 dL_law_924 rfl rfl rfl ?_
  refine g_iconst (n := 926) X dL_law_925 rfl ?_
  refine g_iadd (n := 927) (z := i + 2) X dL_law_926 (by omega) rfl ?_
  refine g_scrld (n := 928) (z := u2) X hb (by omega) (by omega) (by omega) dL_law_927 rfl eu2 ?_
  refine g_i2lE (n := 929) (z := u2) X dL_law_928 (g_i2l (by omega)) rfl ?_
  refine g_ldc2 (n := 932) (z := 4294967295) X dL_law_929 kw_8_53 (by decide +kernel) rfl ?_
  refine g_landC (n := 933) X dL_law_932 (by decide) rfl (fun v2 rv2 xv2 => ?_)
  clear xv2
  refine g_lorA (n := 934) X dL_law_933 rfl (fun v3 rv3 xv3 => ?_)
  clear xv3
  refine g_aload_n (n := 935) X 3 dL_law_934 rfl rfl rfl ?_
  refine g_iload_n (n := 936) X 0 dL_law_935 rfl rfl rfl ?_
  refine g_iconst (n := 937) X dL_law_936 rfl ?_
  refine g_iadd (n := 938) (z := i + 3) X dL_law_937 (by omega) rfl ?_
  refine g_scrld (n := 939) (z := u3) X hb (by omega) (by omega) (by omega) dL_law_938 rfl eu3 ?_
  refine g_callVi (n := 942) (As := [gV v3, gJ u3]) (rest := []) (cs1 := cs) (ss1 := ss) X (s_X11_feed v3 (by omega) u3 (by omega) hsz I C ) okX11_feed kw_3_191 ⟨kw_3_192, kw_3_193⟩ ⟨rfl, rfl⟩ ⟨Nat.le_of_ble_eq_true rfl, Nat.le_of_ble_eq_true rfl⟩ rfl (by decide) (gsz hsz (by decide)) lay_0 rfl rfl (Nat.le_of_ble_eq_true rfl) hRm rfl rfl dL_law_939 rfl (fun v4 M5 P6 => ?_)
  obtain ⟨rv4, IM5, CM5, FM5⟩ := P6
  refine g_pop (n := 943) X dL_law_942 rfl rfl ?_
  refine g_aload_n (n := 944) X 1 dL_law_943 rfl rfl rfl ?_
  refine g_aload_n (n := 945) X 3 dL_law_944 rfl rfl rfl ?_
  refine g_iload_n (n := 946) X 0 dL_law_945 rfl rfl rfl ?_
  refine g_iconst (n := 947) X dL_law_946 rfl ?_
  refine g_iadd (n := 948) (z := i + 1) X dL_law_947 (by omega) rfl ?_
  refine g_scrld (n := 949) (z := u1) X hb (by omega) (by omega) (by omega) dL_law_948 rfl eu1 ?_
  refine g_i2lE (n := 950) (z := u1) X dL_law_949 (g_i2l (by omega)) rfl ?_
  refine g_bipush (n := 952) X dL_law_950 (by decide +kernel) rfl ?_
  refine g_lshlA (n := 953) X dL_law_952 rfl (fun v7 rv7 xv7 => ?_)
  clear xv7
  refine g_aload_n (n := 954) X 3 dL_law_953 rfl rfl rfl ?_
  refine g_iload_n (n := 955) X 0 dL_law_954 rfl rfl rfl ?_
  refine g_iconst (n := 956) X dL_law_955 rfl ?_
  refine g_iadd (n := 957) (z := i + 2) X dL_law_956 (by omega) rfl ?_
  refine g_scrld (n := 958) (z := u2) X hb (by omega) (by omega) (by omega) dL_law_957 rfl eu2 ?_
  refine g_i2lE (n := 959) (z := u2) X dL_law_958 (g_i2l (by omega)) rfl ?_
  refine g_ldc2 (n := 962) (z := 4294967295) X dL_law_959 kw_8_53 (by decide +kernel) rfl ?_
  refine g_landC (n := 963) X dL_law_962 (by decide) rfl (fun v8 rv8 xv8 => ?_)
  clear xv8
  refine g_lorA (n := 964) X dL_law_963 rfl (fun v9 rv9 xv9 => ?_)
  clear xv9
  refine g_aload_n (n := 965) X 3 dL_law_964 rfl rfl rfl ?_
  refine g_iload_n (n := 966) X 0 dL_law_965 rfl rfl rfl ?_
  refine g_iconst (n := 967) X dL_law_966 rfl ?_
  refine g_iadd (n := 968) (z := i + 3) X dL_law_967 (by omega) rfl ?_
  refine g_scrld (n := 969) (z := u3) X hb (by omega) (by omega) (by omega) dL_law_968 rfl eu3 ?_
  refine g_callVi (n := 972) (As := [gV v9, gJ u3]) (rest := []) (cs1 := cs) (ss1 := ss) X (s_X12_feed v9 (by omega) u3 (by omega) hsz IM5 CM5 ) okX12_feed kw_6_227 ⟨kw_6_228, kw_6_229⟩ ⟨rfl, rfl⟩ ⟨Nat.le_of_ble_eq_true rfl, Nat.le_of_ble_eq_true rfl⟩ rfl (by decide) (gsz hsz (by decide)) lay_190 rfl rfl (Nat.le_of_ble_eq_true rfl) hRm rfl rfl dL_law_969 rfl (fun v10 M11 P12 => ?_)
  obtain ⟨rv10, IM11, CM11, FM11⟩ := P12
  refine g_pop (n := 973) X dL_law_972 rfl rfl ?_
  refine g_goto (tgt := 1992) X dL_law_973 (by decide) ?_
  exact kk _ _ _ _ ⟨hsz, IM11, CM11, (gW.fr (S := 144132780270289408) W ⟨sz, hsz, I⟩ (gFr.c (gFr.c gFr.rf FM5 rfl) FM11 rfl) rfl), (by rw [((gFr.at FM11 rc_1_13.2.2 rfl).trans (gFr.at FM5 rc_1_13.2.2 rfl))]; exact LA), (by rw [((gFr.at FM11 (rs_NA (k := 4) (by omega)).2.2 rfl).trans (gFr.at FM5 (rs_NA (k := 4) (by omega)).2.2 rfl))]; exact LB), (lwK.fr LK ((gFr.c (gFr.c gFr.rf FM5 rfl) FM11 rfl) : gFr 144132780270289408 M M11) rfl), ⟨(rl_now.fr (rl_now.fr LR.1 hN FM5 rfl) (gN_of hsz IM5) FM11 rfl), (rl_npers.fr (rl_npers.fr LR.2.1 hN FM5 rfl) (gN_of hsz IM5) FM11 rfl), (rl_sex.fr (rl_sex.fr LR.2.2.1 hN FM5 rfl) (gN_of hsz IM5) FM11 rfl), (rl_born.fr (rl_born.fr LR.2.2.2.1 hN FM5 rfl) (gN_of hsz IM5) FM11 rfl), (rl_nright.fr (rl_nright.fr LR.2.2.2.2.1 hN FM5 rfl) (gN_of hsz IM5) FM11 rfl), (rl_nent.fr (rl_nent.fr LR.2.2.2.2.2.1 hN FM5 rfl) (gN_of hsz IM5) FM11 rfl), (rl_rkind.fr (rl_rkind.fr LR.2.2.2.2.2.2.1 hN FM5 rfl) (gN_of hsz IM5) FM11 rfl), (rl_rwho.fr (rl_rwho.fr LR.2.2.2.2.2.2.2.1 hN FM5 rfl) (gN_of hsz IM5) FM11 rfl), (rl_rto.fr (rl_rto.fr LR.2.2.2.2.2.2.2.2.1 hN FM5 rfl) (gN_of hsz IM5) FM11 rfl), (rl_rn.fr (rl_rn.fr LR.2.2.2.2.2.2.2.2.2.1 hN FM5 rfl) (gN_of hsz IM5) FM11 rfl), (rl_rweek.fr (rl_rweek.fr LR.2.2.2.2.2.2.2.2.2.2.1 hN FM5 rfl) (gN_of hsz IM5) FM11 rfl), (rl_rsure.fr (rl_rsure.fr LR.2.2.2.2.2.2.2.2.2.2.2.1 hN FM5 rfl) (gN_of hsz IM5) FM11 rfl), (rl_proofs.fr (rl_proofs.fr LR.2.2.2.2.2.2.2.2.2.2.2.2 hN FM5 rfl) (gN_of hsz IM5) FM11 rfl)⟩⟩
theorem dL_law_976 : decode code 976 = .ok (.aload_n 1, 1) := dc_43 (by decide +kernel)
theorem dL_law_977 : decode code 977 = .ok (.aload_n 0, 1) := dc_42 (by decide +kernel)
theorem dL_law_978 : decode code 978 = .ok (.iload_n 3, 1) := dc_29 (by decide +kernel)
theorem dL_law_979 : decode code 979 = .ok (.iconst 1, 1) := dc_4 (by decide +kernel)
theorem dL_law_980 : decode code 980 = .ok (.iadd, 1) := dc_96 (by decide +kernel)
theorem dL_law_981 : decode code 981 = .ok (.iaload, 1) := dc_46 (by decide +kernel)
theorem dL_law_982 : decode code 982 = .ok (.invokevirtual 80, 3) := dc_182 0 80 (by decide +kernel)
theorem kw_3_195 : (Jvm.Cond.methodLink "ParishUnionLaw" (80 : Nat) ({ cls := "ParishUnion", name := "text", desc := "(I)I" } : Jvm.MethodName)) ∈ gT := gT_of (tb_3 _ (List.mem_of_getElem? (i := 195) rfl)) rfl
theorem kw_3_198 : (Jvm.Cond.code ({ cls := "ParishUnion", name := "text", desc := "(I)I" } : Jvm.MethodName) prog_1_method_16_code (3 : Nat) (Option.some Jvm.ClassFile.FieldType.int)) ∈ gT := gT_of (tb_3 _ (List.mem_of_getElem? (i := 198) rfl)) rfl
theorem okX11_text : gQok yX11_text cX11_text 3 (Option.some Jvm.ClassFile.FieldType.int) 1 := ⟨kw_3_198, kw_1_1, by decide +kernel, by decide +kernel, by decide +kernel⟩
theorem kw_3_196 : (Jvm.Cond.instanceMethod ({ cls := "ParishUnion", name := "text", desc := "(I)I" } : Jvm.MethodName)) ∈ gT := gT_of (tb_3 _ (List.mem_of_getElem? (i := 196) rfl)) rfl
theorem kw_3_197 : (Jvm.Cond.selects "ParishUnion" ({ cls := "ParishUnion", name := "text", desc := "(I)I" } : Jvm.MethodName) ({ cls := "ParishUnion", name := "text", desc := "(I)I" } : Jvm.MethodName)) ∈ gT := gT_of (tb_3 _ (List.mem_of_getElem? (i := 197) rfl)) rfl
theorem dL_law_985 : decode code 985 = .ok (.pop, 1) := dc_87 (by decide +kernel)
theorem dL_law_986 : decode code 986 = .ok (.aload_n 2, 1) := dc_44 (by decide +kernel)
theorem dL_law_987 : decode code 987 = .ok (.aload_n 0, 1) := dc_42 (by decide +kernel)
theorem dL_law_988 : decode code 988 = .ok (.iload_n 3, 1) := dc_29 (by decide +kernel)
theorem dL_law_989 : decode code 989 = .ok (.iconst 1, 1) := dc_4 (by decide +kernel)
theorem dL_law_990 : decode code 990 = .ok (.iadd, 1) := dc_96 (by decide +kernel)
theorem dL_law_991 : decode code 991 = .ok (.iaload, 1) := dc_46 (by decide +kernel)
theorem dL_law_992 : decode code 992 = .ok (.invokevirtual 84, 3) := dc_182 0 84 (by decide +kernel)
theorem kw_6_232 : (Jvm.Cond.methodLink "ParishUnionLaw" (84 : Nat) ({ cls := "ParishUnionModel", name := "text", desc := "(I)I" } : Jvm.MethodName)) ∈ gT := gT_of (tb_6 _ (List.mem_of_getElem? (i := 232) rfl)) rfl
theorem kw_6_235 : (Jvm.Cond.code ({ cls := "ParishUnionModel", name := "text", desc := "(I)I" } : Jvm.MethodName) prog_14_method_49_code (2 : Nat) (Option.some Jvm.ClassFile.FieldType.int)) ∈ gT := gT_of (tb_6 _ (List.mem_of_getElem? (i := 235) rfl)) rfl
theorem okX12_text : gQok yX12_text cX12_text 2 (Option.some Jvm.ClassFile.FieldType.int) 1 := ⟨kw_6_235, kw_1_13, by decide +kernel, by decide +kernel, by decide +kernel⟩
theorem kw_6_233 : (Jvm.Cond.instanceMethod ({ cls := "ParishUnionModel", name := "text", desc := "(I)I" } : Jvm.MethodName)) ∈ gT := gT_of (tb_6 _ (List.mem_of_getElem? (i := 233) rfl)) rfl
theorem kw_6_234 : (Jvm.Cond.selects "ParishUnionModel" ({ cls := "ParishUnionModel", name := "text", desc := "(I)I" } : Jvm.MethodName) ({ cls := "ParishUnionModel", name := "text", desc := "(I)I" } : Jvm.MethodName)) ∈ gT := gT_of (tb_6 _ (List.mem_of_getElem? (i := 234) rfl)) rfl
theorem dL_law_995 : decode code 995 = .ok (.pop, 1) := dc_87 (by decide +kernel)
theorem dL_law_996 : decode code 996 = .ok (.goto 996, 3) := dc_167 3 228 996 (by decide +kernel)
set_option maxRecDepth 100000 in
set_option maxHeartbeats 4000000 in
theorem law_case_14 {p : Program} {e : Env} {s : State} {m : MethodId} {below : List Frame} {meth : Method} {cd : Code} {l : Launch} {D : va_G} {cA : Nat → ClassId} {b Ln : Nat} {xs : Nat → Int32} (X : gCx p s m #[Value.ref b] meth cd s.heap.size D cA "ParishUnionLaw" code 4) (hr : meth.sig.returnType = ret) (hb : b < s.heap.size ∧ va_X b Ln xs s s.heap) (hLn : Ln ≤ 3584) {sz cs ss : Nat} {M : gM} (L : lwI sz cs ss M) (i : Int) (hi : 0 ≤ i ∧ i + 7 ≤ (Ln : Int)) (kk : ∀ (sz cs ss : Nat) (M1 : gM), lwI sz cs ss M1 → G p l e room_1 s m #[Value.ref b] below meth cd s.heap.size D cA 4 (lw_Z below #[Value.ref b] s) cs ss M1 sz 1992 [(3, gJ i), (2, gA s.heap.size 190), (1, gA s.heap.size 0), (0, .ref b)] []) : G p l e room_1 s m #[Value.ref b] below meth cd s.heap.size D cA 4 (lw_Z below #[Value.ref b] s) cs ss M sz 976 [(3, gJ i), (2, gA s.heap.size 190), (1, gA s.heap.size 0), (0, .ref b)] [] := by
  obtain ⟨hsz, I, C, W, LA, LB, LK, LR⟩ := L
  have hN := gN_of hsz I
  obtain ⟨ac, hac, rac⟩ : ∃ v : Int, M 1 13 = v ∧ (0 ≤ v ∧ v ≤ 10) := by
    obtain ⟨v, hv, rv⟩ := gRd I (by decide) (gsz hsz (by decide)) rc_1_13.1
    exact ⟨v, hv, by omega⟩
  obtain ⟨ab, hab, rab⟩ : ∃ v : Int, M 191 4 = v ∧ (0 ≤ v ∧ v ≤ 10) := by
    obtain ⟨v, hv, rv⟩ := gRd I (by decide) (gsz hsz (by decide)) (rs_NA (k := 4) (by omega)).1
    exact ⟨v, hv, by omega⟩
  have hRm : cs + 0 ≤ room_1.cells ∧ ss + 0 ≤ room_1.slots := by
    show cs + 0 ≤ 349274 ∧ ss + 0 ≤ 8054428
    have := lwK.room LK
    omega
  obtain ⟨u1, eu1, ru1⟩ : ∃ z : Int, xs (i + 1).toNat = Int32.ofInt z ∧ (-2147483648 ≤ z ∧ z ≤ 2147483647) := ⟨_, gi_of _, gi_rg _⟩
  obtain ⟨u2, eu2, ru2⟩ : ∃ z : Int, xs (i + 2).toNat = Int32.ofInt z ∧ (-2147483648 ≤ z ∧ z ≤ 2147483647) := ⟨_, gi_of _, gi_rg _⟩
  obtain ⟨u3, eu3, ru3⟩ : ∃ z : Int, xs (i + 3).toNat = Int32.ofInt z ∧ (-2147483648 ≤ z ∧ z ≤ 2147483647) := ⟨_, gi_of _, gi_rg _⟩
  obtain ⟨u4, eu4, ru4⟩ : ∃ z : Int, xs (i + 4).toNat = Int32.ofInt z ∧ (-2147483648 ≤ z ∧ z ≤ 2147483647) := ⟨_, gi_of _, gi_rg _⟩
  obtain ⟨u5, eu5, ru5⟩ : ∃ z : Int, xs (i + 5).toNat = Int32.ofInt z ∧ (-2147483648 ≤ z ∧ z ≤ 2147483647) := ⟨_, gi_of _, gi_rg _⟩
  obtain ⟨u6, eu6, ru6⟩ : ∃ z : Int, xs (i + 6).toNat = Int32.ofInt z ∧ (-2147483648 ≤ z ∧ z ≤ 2147483647) := ⟨_, gi_of _, gi_rg _⟩
  refine g_aload_n (n := 977) X 2 dL_law_976 rfl rfl rfl ?_
  refine g_aload_n (n := 978) X 3 dL_law_977 rfl rfl rfl ?_
  refine g_iload_n (n := 979) X 0 dL_law_978 rfl rfl rfl ?_
  refine g_iconst (n := 980) X dL_law_979 rfl ?_
  refine g_iadd (n := 981) (z := i + 1) X dL_law_980 (by omega) rfl ?_
  refine g_scrld (n := 982) (z := u1) X hb (by omega) (by omega) (by omega) dL_law_981 rfl eu1 ?_
  refine g_callVi (n := 985) (As := [gJ u1]) (rest := []) (cs1 := cs) (ss1 := ss) X (s_X11_text u1 (by omega) hsz I C (by have := hac; omega)) okX11_text kw_3_195 ⟨kw_3_196, kw_3_197⟩ ⟨rfl, rfl⟩ ⟨Nat.le_of_ble_eq_true rfl, Nat.le_of_ble_eq_true rfl⟩ rfl (by decide) (gsz hsz (by decide)) lay_0 rfl rfl (Nat.le_of_ble_eq_true rfl) hRm rfl rfl dL_law_982 rfl (fun v1 M2 P3 => ?_)
  obtain ⟨rv1, IM2, CM2, FM2, xM2⟩ := P3
  refine g_pop (n := 986) X dL_law_985 rfl rfl ?_
  refine g_aload_n (n := 987) X 1 dL_law_986 rfl rfl rfl ?_
  refine g_aload_n (n := 988) X 3 dL_law_987 rfl rfl rfl ?_
  refine g_iload_n (n := 989) X 0 dL_law_988 rfl rfl rfl ?_
  refine g_iconst (n := 990) X dL_law_989 rfl ?_
  refine g_iadd (n := 991) (z := i + 1) X dL_law_990 (by omega) rfl ?_
  refine g_scrld (n := 992) (z := u1) X hb (by omega) (by omega) (by omega) dL_law_991 rfl eu1 ?_
  refine g_callVi (n := 995) (As := [gJ u1]) (rest := []) (cs1 := cs) (ss1 := ss) X (s_X12_text u1 (by omega) hsz IM2 CM2 (gW.fr (S := 1019216128) W ⟨sz, hsz, I⟩ (gFr.c gFr.rf FM2 rfl) rfl) (by have := ((gFr.at FM2 (rs_NA (k := 4) (by omega)).2.2 rfl).trans hab); omega)) okX12_text kw_6_232 ⟨kw_6_233, kw_6_234⟩ ⟨rfl, rfl⟩ ⟨Nat.le_of_ble_eq_true rfl, Nat.le_of_ble_eq_true rfl⟩ rfl (by decide) (gsz hsz (by decide)) lay_190 rfl rfl (Nat.le_of_ble_eq_true rfl) hRm rfl rfl dL_law_992 rfl (fun v4 M5 P6 => ?_)
  obtain ⟨rv4, IM5, CM5, FM5, xM5⟩ := P6
  refine g_pop (n := 996) X dL_law_995 rfl rfl ?_
  refine g_goto (tgt := 1992) X dL_law_996 (by decide) ?_
  exact kk _ _ _ _ ⟨hsz, IM5, CM5, (gW.fr (S := 2475884764048276739734896896) W ⟨sz, hsz, I⟩ (gFr.c (gFr.c gFr.rf FM2 rfl) FM5 rfl) rfl), (by rw [gFr.at FM5 rc_1_13.2.2 rfl]; exact xM2), xM5, (lwK.fr LK ((gFr.c (gFr.c gFr.rf FM2 rfl) FM5 rfl) : gFr 2475884764048276739734896896 M M5) rfl), ⟨(rl_now.fr (rl_now.fr LR.1 hN FM2 rfl) (gN_of hsz IM2) FM5 rfl), (rl_npers.fr (rl_npers.fr LR.2.1 hN FM2 rfl) (gN_of hsz IM2) FM5 rfl), (rl_sex.fr (rl_sex.fr LR.2.2.1 hN FM2 rfl) (gN_of hsz IM2) FM5 rfl), (rl_born.fr (rl_born.fr LR.2.2.2.1 hN FM2 rfl) (gN_of hsz IM2) FM5 rfl), (rl_nright.fr (rl_nright.fr LR.2.2.2.2.1 hN FM2 rfl) (gN_of hsz IM2) FM5 rfl), (rl_nent.fr (rl_nent.fr LR.2.2.2.2.2.1 hN FM2 rfl) (gN_of hsz IM2) FM5 rfl), (rl_rkind.fr (rl_rkind.fr LR.2.2.2.2.2.2.1 hN FM2 rfl) (gN_of hsz IM2) FM5 rfl), (rl_rwho.fr (rl_rwho.fr LR.2.2.2.2.2.2.2.1 hN FM2 rfl) (gN_of hsz IM2) FM5 rfl), (rl_rto.fr (rl_rto.fr LR.2.2.2.2.2.2.2.2.1 hN FM2 rfl) (gN_of hsz IM2) FM5 rfl), (rl_rn.fr (rl_rn.fr LR.2.2.2.2.2.2.2.2.2.1 hN FM2 rfl) (gN_of hsz IM2) FM5 rfl), (rl_rweek.fr (rl_rweek.fr LR.2.2.2.2.2.2.2.2.2.2.1 hN FM2 rfl) (gN_of hsz IM2) FM5 rfl), (rl_rsure.fr (rl_rsure.fr LR.2.2.2.2.2.2.2.2.2.2.2.1 hN FM2 rfl) (gN_of hsz IM2) FM5 rfl), (rl_proofs.fr (rl_proofs.fr LR.2.2.2.2.2.2.2.2.2.2.2.2 hN FM2 rfl) (gN_of hsz IM2) FM5 rfl)⟩⟩
theorem dL_law_999 : decode code 999 = .ok (.aload_n 1, 1) := dc_43 (by decide +kernel)
theorem dL_law_1000 : decode code 1000 = .ok (.aload_n 0, 1) := dc_42 (by decide +kernel)
theorem dL_law_1001 : decode code 1001 = .ok (.iload_n 3, 1) := dc_29 (by decide +kernel)
theorem dL_law_1002 : decode code 1002 = .ok (.iconst 1, 1) := dc_4 (by decide +kernel)
theorem dL_law_1003 : decode code 1003 = .ok (.iadd, 1) := dc_96 (by decide +kernel)
theorem dL_law_1004 : decode code 1004 = .ok (.iaload, 1) := dc_46 (by decide +kernel)
theorem dL_law_1005 : decode code 1005 = .ok (.aload_n 0, 1) := dc_42 (by decide +kernel)
theorem dL_law_1006 : decode code 1006 = .ok (.iload_n 3, 1) := dc_29 (by decide +kernel)
theorem dL_law_1007 : decode code 1007 = .ok (.iconst 2, 1) := dc_5 (by decide +kernel)
theorem dL_law_1008 : decode code 1008 = .ok (.iadd, 1) := dc_96 (by decide +kernel)
theorem dL_law_1009 : decode code 1009 = .ok (.iaload, 1) := dc_46 (by decide +kernel)
theorem dL_law_1010 : decode code 1010 = .ok (.invokevirtual 85, 3) := dc_182 0 85 (by decide +kernel)
theorem kw_4_87 : (Jvm.Cond.methodLink "ParishUnionLaw" (85 : Nat) ({ cls := "ParishUnion", name := "force", desc := "(II)I" } : Jvm.MethodName)) ∈ gT := gT_of (tb_4 _ (List.mem_of_getElem? (i := 87) rfl)) rfl
theorem kw_4_90 : (Jvm.Cond.code ({ cls := "ParishUnion", name := "force", desc := "(II)I" } : Jvm.MethodName) prog_1_method_17_code (3 : Nat) (Option.some Jvm.ClassFile.FieldType.int)) ∈ gT := gT_of (tb_4 _ (List.mem_of_getElem? (i := 90) rfl)) rfl
theorem okX11_force : gQok yX11_force cX11_force 3 (Option.some Jvm.ClassFile.FieldType.int) 2 := ⟨kw_4_90, kw_1_1, by decide +kernel, by decide +kernel, by decide +kernel⟩
theorem kw_4_88 : (Jvm.Cond.instanceMethod ({ cls := "ParishUnion", name := "force", desc := "(II)I" } : Jvm.MethodName)) ∈ gT := gT_of (tb_4 _ (List.mem_of_getElem? (i := 88) rfl)) rfl
theorem kw_4_89 : (Jvm.Cond.selects "ParishUnion" ({ cls := "ParishUnion", name := "force", desc := "(II)I" } : Jvm.MethodName) ({ cls := "ParishUnion", name := "force", desc := "(II)I" } : Jvm.MethodName)) ∈ gT := gT_of (tb_4 _ (List.mem_of_getElem? (i := 89) rfl)) rfl
theorem dL_law_1013 : decode code 1013 = .ok (.pop, 1) := dc_87 (by decide +kernel)
theorem dL_law_1014 : decode code 1014 = .ok (.aload_n 2, 1) := dc_44 (by decide +kernel)
theorem dL_law_1015 : decode code 1015 = .ok (.aload_n 0, 1) := dc_42 (by decide +kernel)
theorem dL_law_1016 : decode code 1016 = .ok (.iload_n 3, 1) := dc_29 (by decide +kernel)
theorem dL_law_1017 : decode code 1017 = .ok (.iconst 1, 1) := dc_4 (by decide +kernel)
theorem dL_law_1018 : decode code 1018 = .ok (.iadd, 1) := dc_96 (by decide +kernel)
theorem dL_law_1019 : decode code 1019 = .ok (.iaload, 1) := dc_46 (by decide +kernel)
theorem dL_law_1020 : decode code 1020 = .ok (.aload_n 0, 1) := dc_42 (by decide +kernel)
theorem dL_law_1021 : decode code 1021 = .ok (.iload_n 3, 1) := dc_29 (by decide +kernel)
theorem dL_law_1022 : decode code 1022 = .ok (.iconst 2, 1) := dc_5 (by decide +kernel)
theorem dL_law_1023 : decode code 1023 = .ok (.iadd, 1) := dc_96 (by decide +kernel)
theorem dL_law_1024 : decode code 1024 = .ok (.iaload, 1) := dc_46 (by decide +kernel)
theorem dL_law_1025 : decode code 1025 = .ok (.invokevirtual 88, 3) := dc_182 0 88 (by decide +kernel)
theorem kw_7_70 : (Jvm.Cond.methodLink "ParishUnionLaw" (88 : Nat) ({ cls := "ParishUnionModel", name := "force", desc := "(II)I" } : Jvm.MethodName)) ∈ gT := gT_of (tb_7 _ (List.mem_of_getElem? (i := 70) rfl)) rfl
theorem kw_7_73 : (Jvm.Cond.code ({ cls := "ParishUnionModel", name := "force", desc := "(II)I" } : Jvm.MethodName) prog_14_method_55_code (3 : Nat) (Option.some Jvm.ClassFile.FieldType.int)) ∈ gT := gT_of (tb_7 _ (List.mem_of_getElem? (i := 73) rfl)) rfl
theorem okX12_force : gQok yX12_force cX12_force 3 (Option.some Jvm.ClassFile.FieldType.int) 2 := ⟨kw_7_73, kw_1_13, by decide +kernel, by decide +kernel, by decide +kernel⟩
theorem kw_7_71 : (Jvm.Cond.instanceMethod ({ cls := "ParishUnionModel", name := "force", desc := "(II)I" } : Jvm.MethodName)) ∈ gT := gT_of (tb_7 _ (List.mem_of_getElem? (i := 71) rfl)) rfl
theorem kw_7_72 : (Jvm.Cond.selects "ParishUnionModel" ({ cls := "ParishUnionModel", name := "force", desc := "(II)I" } : Jvm.MethodName) ({ cls := "ParishUnionModel", name := "force", desc := "(II)I" } : Jvm.MethodName)) ∈ gT := gT_of (tb_7 _ (List.mem_of_getElem? (i := 72) rfl)) rfl
theorem dL_law_1028 : decode code 1028 = .ok (.pop, 1) := dc_87 (by decide +kernel)
theorem dL_law_1029 : decode code 1029 = .ok (.goto 963, 3) := dc_167 3 195 963 (by decide +kernel)
set_option maxRecDepth 100000 in
set_option maxHeartbeats 4000000 in
theorem law_case_15 {p : Program} {e : Env} {s : State} {m : MethodId} {below : List Frame} {meth : Method} {cd : Code} {l : Launch} {D : va_G} {cA : Nat → ClassId} {b Ln : Nat} {xs : Nat → Int32} (X : gCx p s m #[Value.ref b] meth cd s.heap.size D cA "ParishUnionLaw" code 4) (hr : meth.sig.returnType = ret) (hb : b < s.heap.size ∧ va_X b Ln xs s s.heap) (hLn : Ln ≤ 3584) {sz cs ss : Nat} {M : gM} (L : lwI sz cs ss M) (i : Int) (hi : 0 ≤ i ∧ i + 7 ≤ (Ln : Int)) (kk : ∀ (sz cs ss : Nat) (M1 : gM), lwI sz cs ss M1 → G p l e room_1 s m #[Value.ref b] below meth cd s.heap.size D cA 4 (lw_Z below #[Value.ref b] s) cs ss M1 sz 1992 [(3, gJ i), (2, gA s.heap.size 190), (1, gA s.heap.size 0), (0, .ref b)] []) : G p l e room_1 s m #[Value.ref b] below meth cd s.heap.size D cA 4 (lw_Z below #[Value.ref b] s) cs ss M sz 999 [(3, gJ i), (2, gA s.heap.size 190), (1, gA s.heap.size 0), (0, .ref b)] [] := by
  obtain ⟨hsz, I, C, W, LA, LB, LK, LR⟩ := L
  have hN := gN_of hsz I
  obtain ⟨ac, hac, rac⟩ : ∃ v : Int, M 1 13 = v ∧ (0 ≤ v ∧ v ≤ 10) := by
    obtain ⟨v, hv, rv⟩ := gRd I (by decide) (gsz hsz (by decide)) rc_1_13.1
    exact ⟨v, hv, by omega⟩
  obtain ⟨ab, hab, rab⟩ : ∃ v : Int, M 191 4 = v ∧ (0 ≤ v ∧ v ≤ 10) := by
    obtain ⟨v, hv, rv⟩ := gRd I (by decide) (gsz hsz (by decide)) (rs_NA (k := 4) (by omega)).1
    exact ⟨v, hv, by omega⟩
  have hRm : cs + 0 ≤ room_1.cells ∧ ss + 0 ≤ room_1.slots := by
    show cs + 0 ≤ 349274 ∧ ss + 0 ≤ 8054428
    have := lwK.room LK
    omega
  obtain ⟨u1, eu1, ru1⟩ : ∃ z : Int, xs (i + 1).toNat = Int32.ofInt z ∧ (-2147483648 ≤ z ∧ z ≤ 2147483647) := ⟨_, gi_of _, gi_rg _⟩
  obtain ⟨u2, eu2, ru2⟩ : ∃ z : Int, xs (i + 2).toNat = Int32.ofInt z ∧ (-2147483648 ≤ z ∧ z ≤ 2147483647) := ⟨_, gi_of _, gi_rg _⟩
  obtain ⟨u3, eu3, ru3⟩ : ∃ z : Int, xs (i + 3).toNat = Int32.ofInt z ∧ (-2147483648 ≤ z ∧ z ≤ 2147483647) := ⟨_, gi_of _, gi_rg _⟩
  obtain ⟨u4, eu4, ru4⟩ : ∃ z : Int, xs (i + 4).toNat = Int32.ofInt z ∧ (-2147483648 ≤ z ∧ z ≤ 2147483647) := ⟨_, gi_of _, gi_rg _⟩
  obtain ⟨u5, eu5, ru5⟩ : ∃ z : Int, xs (i + 5).toNat = Int32.ofInt z ∧ (-2147483648 ≤ z ∧ z ≤ 2147483647) := ⟨_, gi_of _, gi_rg _⟩
  obtain ⟨u6, eu6, ru6⟩ : ∃ z : Int, xs (i + 6).toNat = Int32.ofInt z ∧ (-2147483648 ≤ z ∧ z ≤ 2147483647) := ⟨_, gi_of _, gi_rg _⟩
  refine g_aload_n (n := 1000) X 2 dL_law_999 rfl rfl rfl ?_
  refine g_aload_n (n := 1001) X 3 dL_law_1000 rfl rfl rfl ?_
  refine g_iload_n (n := 1002) X 0 dL_law_1001 rfl rfl rfl ?_
  refine g_iconst (n := 1003) X dL_law_1002 rfl ?_
  refine g_iadd (n := 1004) (z := i + 1) X dL_law_1003 (by omega) rfl ?_
  refine g_scrld (n := 1005) (z := u1) X hb (by omega) (by omega) (by omega) dL_law_1004 rfl eu1 ?_
  refine g_aload_n (n := 1006) X 3 dL_law_1005 rfl rfl rfl ?_
  refine g_iload_n (n := 1007) X 0 dL_law_1006 rfl rfl rfl ?_
  refine g_iconst (n := 1008) X dL_law_1007 rfl ?_
  refine g_iadd (n := 1009) (z := i + 2) X dL_law_1008 (by omega) rfl ?_
  refine g_scrld (n := 1010) (z := u2) X hb (by omega) (by omega) (by omega) dL_law_1009 rfl eu2 ?_
  refine g_callVi (n := 1013) (As := [gJ u1, gJ u2]) (rest := []) (cs1 := cs) (ss1 := ss) X (s_X11_force u1 (by omega) u2 (by omega) hsz I C ) okX11_force kw_4_87 ⟨kw_4_88, kw_4_89⟩ ⟨rfl, rfl⟩ ⟨Nat.le_of_ble_eq_true rfl, Nat.le_of_ble_eq_true rfl⟩ rfl (by decide) (gsz hsz (by decide)) lay_0 rfl rfl (Nat.le_of_ble_eq_true rfl) hRm rfl rfl dL_law_1010 rfl (fun v1 M2 P3 => ?_)
  obtain ⟨rfl, rv1⟩ := P3
  refine g_pop (n := 1014) X dL_law_1013 rfl rfl ?_
  refine g_aload_n (n := 1015) X 1 dL_law_1014 rfl rfl rfl ?_
  refine g_aload_n (n := 1016) X 3 dL_law_1015 rfl rfl rfl ?_
  refine g_iload_n (n := 1017) X 0 dL_law_1016 rfl rfl rfl ?_
  refine g_iconst (n := 1018) X dL_law_1017 rfl ?_
  refine g_iadd (n := 1019) (z := i + 1) X dL_law_1018 (by omega) rfl ?_
  refine g_scrld (n := 1020) (z := u1) X hb (by omega) (by omega) (by omega) dL_law_1019 rfl eu1 ?_
  refine g_aload_n (n := 1021) X 3 dL_law_1020 rfl rfl rfl ?_
  refine g_iload_n (n := 1022) X 0 dL_law_1021 rfl rfl rfl ?_
  refine g_iconst (n := 1023) X dL_law_1022 rfl ?_
  refine g_iadd (n := 1024) (z := i + 2) X dL_law_1023 (by omega) rfl ?_
  refine g_scrld (n := 1025) (z := u2) X hb (by omega) (by omega) (by omega) dL_law_1024 rfl eu2 ?_
  refine g_callVi (n := 1028) (As := [gJ u1, gJ u2]) (rest := []) (cs1 := cs) (ss1 := ss) X (s_X12_force u1 (by omega) u2 (by omega) hsz I C ) okX12_force kw_7_70 ⟨kw_7_71, kw_7_72⟩ ⟨rfl, rfl⟩ ⟨Nat.le_of_ble_eq_true rfl, Nat.le_of_ble_eq_true rfl⟩ rfl (by decide) (gsz hsz (by decide)) lay_190 rfl rfl (Nat.le_of_ble_eq_true rfl) hRm rfl rfl dL_law_1025 rfl (fun v4 M5 P6 => ?_)
  obtain ⟨rfl, rv4⟩ := P6
  refine g_pop (n := 1029) X dL_law_1028 rfl rfl ?_
  refine g_goto (tgt := 1992) X dL_law_1029 (by decide) ?_
  exact kk _ _ _ _ ⟨hsz, I, C, W, LA, LB, (lwK.fr LK (gFr.rf : gFr 0 M M) rfl), ⟨LR.1, LR.2.1, LR.2.2.1, LR.2.2.2.1, LR.2.2.2.2.1, LR.2.2.2.2.2.1, LR.2.2.2.2.2.2.1, LR.2.2.2.2.2.2.2.1, LR.2.2.2.2.2.2.2.2.1, LR.2.2.2.2.2.2.2.2.2.1, LR.2.2.2.2.2.2.2.2.2.2.1, LR.2.2.2.2.2.2.2.2.2.2.2.1, LR.2.2.2.2.2.2.2.2.2.2.2.2⟩⟩
