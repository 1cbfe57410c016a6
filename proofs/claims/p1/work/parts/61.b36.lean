theorem dL_law_1692 : decode code 1692 = .ok (.aload_n 1, 1) := by decide +kernel
theorem dL_law_1693 : decode code 1693 = .ok (.aload_n 0, 1) := by decide +kernel
theorem dL_law_1694 : decode code 1694 = .ok (.iload_n 3, 1) := by decide +kernel
theorem dL_law_1695 : decode code 1695 = .ok (.iconst 1, 1) := by decide +kernel
theorem dL_law_1696 : decode code 1696 = .ok (.iadd, 1) := by decide +kernel
theorem dL_law_1697 : decode code 1697 = .ok (.iaload, 1) := by decide +kernel
theorem dL_law_1698 : decode code 1698 = .ok (.invokevirtual 170, 3) := by decide +kernel
theorem kw_5_123 : (Jvm.Cond.methodLink "ParishUnionLaw" (170 : Nat) ({ cls := "ParishUnion", name := "run", desc := "(I)I" } : Jvm.MethodName)) ∈ gT := gT_of (tb_5 _ (List.mem_of_getElem? (i := 123) rfl)) rfl
theorem kw_5_126 : (Jvm.Cond.code ({ cls := "ParishUnion", name := "run", desc := "(I)I" } : Jvm.MethodName) prog_1_method_38_code (3 : Nat) (Option.some Jvm.ClassFile.FieldType.int)) ∈ gT := gT_of (tb_5 _ (List.mem_of_getElem? (i := 126) rfl)) rfl
theorem okX11_run : gQok yX11_run cX11_run 3 (Option.some Jvm.ClassFile.FieldType.int) 1 := ⟨kw_5_126, kw_1_1, by decide +kernel, by decide +kernel, by decide +kernel⟩
theorem kw_5_124 : (Jvm.Cond.instanceMethod ({ cls := "ParishUnion", name := "run", desc := "(I)I" } : Jvm.MethodName)) ∈ gT := gT_of (tb_5 _ (List.mem_of_getElem? (i := 124) rfl)) rfl
theorem kw_5_125 : (Jvm.Cond.selects "ParishUnion" ({ cls := "ParishUnion", name := "run", desc := "(I)I" } : Jvm.MethodName) ({ cls := "ParishUnion", name := "run", desc := "(I)I" } : Jvm.MethodName)) ∈ gT := gT_of (tb_5 _ (List.mem_of_getElem? (i := 125) rfl)) rfl
theorem dL_law_1701 : decode code 1701 = .ok (.aload_n 2, 1) := by decide +kernel
theorem dL_law_1702 : decode code 1702 = .ok (.aload_n 0, 1) := by decide +kernel
theorem dL_law_1703 : decode code 1703 = .ok (.iload_n 3, 1) := by decide +kernel
theorem dL_law_1704 : decode code 1704 = .ok (.iconst 1, 1) := by decide +kernel
theorem dL_law_1705 : decode code 1705 = .ok (.iadd, 1) := by decide +kernel
theorem dL_law_1706 : decode code 1706 = .ok (.iaload, 1) := by decide +kernel
theorem dL_law_1707 : decode code 1707 = .ok (.invokevirtual 173, 3) := by decide +kernel
theorem kw_7_228 : (Jvm.Cond.methodLink "ParishUnionLaw" (173 : Nat) ({ cls := "ParishUnionModel", name := "run", desc := "(I)I" } : Jvm.MethodName)) ∈ gT := gT_of (tb_7 _ (List.mem_of_getElem? (i := 228) rfl)) rfl
theorem kw_7_231 : (Jvm.Cond.code ({ cls := "ParishUnionModel", name := "run", desc := "(I)I" } : Jvm.MethodName) prog_14_method_93_code (2 : Nat) (Option.some Jvm.ClassFile.FieldType.int)) ∈ gT := gT_of (tb_7 _ (List.mem_of_getElem? (i := 231) rfl)) rfl
theorem okX12_run : gQok yX12_run cX12_run 2 (Option.some Jvm.ClassFile.FieldType.int) 1 := ⟨kw_7_231, kw_1_13, by decide +kernel, by decide +kernel, by decide +kernel⟩
theorem kw_7_229 : (Jvm.Cond.instanceMethod ({ cls := "ParishUnionModel", name := "run", desc := "(I)I" } : Jvm.MethodName)) ∈ gT := gT_of (tb_7 _ (List.mem_of_getElem? (i := 229) rfl)) rfl
theorem kw_7_230 : (Jvm.Cond.selects "ParishUnionModel" ({ cls := "ParishUnionModel", name := "run", desc := "(I)I" } : Jvm.MethodName) ({ cls := "ParishUnionModel", name := "run", desc := "(I)I" } : Jvm.MethodName)) ∈ gT := gT_of (tb_7 _ (List.mem_of_getElem? (i := 230) rfl)) rfl
theorem dL_law_1710 : decode code 1710 = .ok (.if_icmp .eq 282, 3) := by decide +kernel
set_option maxRecDepth 100000 in
set_option maxHeartbeats 4000000 in
theorem law_case_36 {p : Program} {e : Env} {s : State} {m : MethodId} {below : List Frame} {meth : Method} {c : Code} {l : Launch} {D : va_G} {cA : Nat → ClassId} {b : Nat} {xs : Nat → Int32} (X : gCx p s m #[Value.ref b] meth c s.heap.size D cA "ParishUnionLaw" code 4) (hr : meth.sig.returnType = ret) (hb : b < s.heap.size ∧ va_X b 7 xs s s.heap) {M : gM} (hFr : gFr M) : G p l e room_1 s m #[Value.ref b] below meth c s.heap.size D cA 4 (lw_Z below #[Value.ref b] s) 206 87467 M 206 1692 [(3, gJ 0), (2, gA s.heap.size 190), (1, gA s.heap.size 0), (0, .ref b)] [] := by
  have rents := gFr_rents hFr
  have way := gFr_way hFr
  have beds := gFr_beds hFr
  have frost0 := gFr_frost0 hFr
  have rows0 := gFr_rows0 hFr
  have rooms0 := gFr_rooms0 hFr
  have tape0 := gFr_tape0 hFr
  have car0 := gFr_car0 hFr
  have hS := gFr_hS hFr
  obtain ⟨v0, e0, r0⟩ : ∃ z : Int, xs 0 = Int32.ofInt z ∧ -2147483648 ≤ z ∧ z ≤ 2147483647 := ⟨_, gi_of _, gi_rg _⟩
  obtain ⟨v1, e1, r1⟩ : ∃ z : Int, xs 1 = Int32.ofInt z ∧ -2147483648 ≤ z ∧ z ≤ 2147483647 := ⟨_, gi_of _, gi_rg _⟩
  obtain ⟨v2, e2, r2⟩ : ∃ z : Int, xs 2 = Int32.ofInt z ∧ -2147483648 ≤ z ∧ z ≤ 2147483647 := ⟨_, gi_of _, gi_rg _⟩
  obtain ⟨v3, e3, r3⟩ : ∃ z : Int, xs 3 = Int32.ofInt z ∧ -2147483648 ≤ z ∧ z ≤ 2147483647 := ⟨_, gi_of _, gi_rg _⟩
  obtain ⟨v4, e4, r4⟩ : ∃ z : Int, xs 4 = Int32.ofInt z ∧ -2147483648 ≤ z ∧ z ≤ 2147483647 := ⟨_, gi_of _, gi_rg _⟩
  obtain ⟨v5, e5, r5⟩ : ∃ z : Int, xs 5 = Int32.ofInt z ∧ -2147483648 ≤ z ∧ z ≤ 2147483647 := ⟨_, gi_of _, gi_rg _⟩
  obtain ⟨v6, e6, r6⟩ : ∃ z : Int, xs 6 = Int32.ofInt z ∧ -2147483648 ≤ z ∧ z ≤ 2147483647 := ⟨_, gi_of _, gi_rg _⟩
  refine g_aload_n (n := 1693) X 2 dL_law_1692 rfl rfl rfl ?_
  refine g_aload_n (n := 1694) X 3 dL_law_1693 rfl rfl rfl ?_
  refine g_iload_n (n := 1695) X 0 dL_law_1694 rfl rfl rfl ?_
  refine g_iconst (n := 1696) X dL_law_1695 rfl ?_
  refine g_iadd (n := 1697) (z := 1) X dL_law_1696 rfl rfl ?_
  refine g_scrld (n := 1698) (z := v1) X hb (by omega) (by omega) (by omega) dL_law_1697 rfl e1 ?_
  refine g_callVi (n := 1701) (As := [gJ v1]) (rest := []) (cs1 := 206) (ss1 := 87467) X (c_X11_run v1 (by omega) (by omega) (gFr_0_0 hFr) (gFr_1_10 hFr)) okX11_run kw_5_123 ⟨kw_5_124, kw_5_125⟩ ⟨rfl, rfl⟩ ⟨Nat.le_of_ble_eq_true rfl, Nat.le_of_ble_eq_true rfl⟩ rfl (by omega) (by omega) lay_0 rfl rfl (Nat.le_of_ble_eq_true rfl) ⟨Nat.le_of_ble_eq_true rfl, Nat.le_of_ble_eq_true rfl⟩ rfl rfl dL_law_1698 rfl (fun z1 M2 P3 => ?_)
  obtain ⟨P3, F4⟩ := P3
  refine g_aload_n (n := 1702) X 1 dL_law_1701 rfl rfl rfl ?_
  refine g_aload_n (n := 1703) X 3 dL_law_1702 rfl rfl rfl ?_
  refine g_iload_n (n := 1704) X 0 dL_law_1703 rfl rfl rfl ?_
  refine g_iconst (n := 1705) X dL_law_1704 rfl ?_
  refine g_iadd (n := 1706) (z := 1) X dL_law_1705 rfl rfl ?_
  refine g_scrld (n := 1707) (z := v1) X hb (by omega) (by omega) (by omega) dL_law_1706 rfl e1 ?_
  refine g_callVi (n := 1710) (As := [gJ v1]) (rest := [gJ z1]) (cs1 := 206) (ss1 := 87467) X (c_X12_run v1 (by omega) (by omega) ((congrFun (F4 190) _).trans (gFr_190_1 hFr)) ((congrFun (F4 191) _).trans ((hS 1 (by omega) (by omega)).trans (by decide)))) okX12_run kw_7_228 ⟨kw_7_229, kw_7_230⟩ ⟨rfl, rfl⟩ ⟨Nat.le_of_ble_eq_true rfl, Nat.le_of_ble_eq_true rfl⟩ rfl (by omega) (by omega) lay_190 rfl rfl (Nat.le_of_ble_eq_true rfl) ⟨Nat.le_of_ble_eq_true rfl, Nat.le_of_ble_eq_true rfl⟩ rfl rfl dL_law_1707 rfl (fun z5 M6 P7 => ?_)
  obtain ⟨P7, F8⟩ := P7
  refine g_icmp_eq (n := 1713) (tgt := 1992) X dL_law_1710 (by decide) (by omega) (by omega) rfl (fun c9 => ?_) (fun c9 => by exfalso; omega)
  exact law_tail X hr hb (by omega) (by omega)
theorem dL_law_1715 : decode code 1715 = .ok (.aload_n 1, 1) := by decide +kernel
theorem dL_law_1716 : decode code 1716 = .ok (.aload_n 0, 1) := by decide +kernel
theorem dL_law_1717 : decode code 1717 = .ok (.iload_n 3, 1) := by decide +kernel
theorem dL_law_1718 : decode code 1718 = .ok (.iconst 1, 1) := by decide +kernel
theorem dL_law_1719 : decode code 1719 = .ok (.iadd, 1) := by decide +kernel
theorem dL_law_1720 : decode code 1720 = .ok (.iaload, 1) := by decide +kernel
theorem dL_law_1721 : decode code 1721 = .ok (.aload_n 0, 1) := by decide +kernel
theorem dL_law_1722 : decode code 1722 = .ok (.iload_n 3, 1) := by decide +kernel
theorem dL_law_1723 : decode code 1723 = .ok (.iconst 2, 1) := by decide +kernel
theorem dL_law_1724 : decode code 1724 = .ok (.iadd, 1) := by decide +kernel
theorem dL_law_1725 : decode code 1725 = .ok (.iaload, 1) := by decide +kernel
theorem dL_law_1726 : decode code 1726 = .ok (.aload_n 0, 1) := by decide +kernel
theorem dL_law_1727 : decode code 1727 = .ok (.iload_n 3, 1) := by decide +kernel
theorem dL_law_1728 : decode code 1728 = .ok (.iconst 3, 1) := by decide +kernel
theorem dL_law_1729 : decode code 1729 = .ok (.iadd, 1) := by decide +kernel
theorem dL_law_1730 : decode code 1730 = .ok (.iaload, 1) := by decide +kernel
theorem dL_law_1731 : decode code 1731 = .ok (.invokevirtual 174, 3) := by decide +kernel
theorem kw_5_127 : (Jvm.Cond.methodLink "ParishUnionLaw" (174 : Nat) ({ cls := "ParishUnion", name := "choice", desc := "(III)I" } : Jvm.MethodName)) ∈ gT := gT_of (tb_5 _ (List.mem_of_getElem? (i := 127) rfl)) rfl
theorem kw_5_130 : (Jvm.Cond.code ({ cls := "ParishUnion", name := "choice", desc := "(III)I" } : Jvm.MethodName) prog_1_method_39_code (4 : Nat) (Option.some Jvm.ClassFile.FieldType.int)) ∈ gT := gT_of (tb_5 _ (List.mem_of_getElem? (i := 130) rfl)) rfl
theorem okX11_choice : gQok yX11_choice cX11_choice 4 (Option.some Jvm.ClassFile.FieldType.int) 3 := ⟨kw_5_130, kw_1_1, by decide +kernel, by decide +kernel, by decide +kernel⟩
theorem kw_5_128 : (Jvm.Cond.instanceMethod ({ cls := "ParishUnion", name := "choice", desc := "(III)I" } : Jvm.MethodName)) ∈ gT := gT_of (tb_5 _ (List.mem_of_getElem? (i := 128) rfl)) rfl
theorem kw_5_129 : (Jvm.Cond.selects "ParishUnion" ({ cls := "ParishUnion", name := "choice", desc := "(III)I" } : Jvm.MethodName) ({ cls := "ParishUnion", name := "choice", desc := "(III)I" } : Jvm.MethodName)) ∈ gT := gT_of (tb_5 _ (List.mem_of_getElem? (i := 129) rfl)) rfl
theorem dL_law_1734 : decode code 1734 = .ok (.aload_n 2, 1) := by decide +kernel
theorem dL_law_1735 : decode code 1735 = .ok (.aload_n 0, 1) := by decide +kernel
theorem dL_law_1736 : decode code 1736 = .ok (.iload_n 3, 1) := by decide +kernel
theorem dL_law_1737 : decode code 1737 = .ok (.iconst 1, 1) := by decide +kernel
theorem dL_law_1738 : decode code 1738 = .ok (.iadd, 1) := by decide +kernel
theorem dL_law_1739 : decode code 1739 = .ok (.iaload, 1) := by decide +kernel
theorem dL_law_1740 : decode code 1740 = .ok (.aload_n 0, 1) := by decide +kernel
theorem dL_law_1741 : decode code 1741 = .ok (.iload_n 3, 1) := by decide +kernel
theorem dL_law_1742 : decode code 1742 = .ok (.iconst 2, 1) := by decide +kernel
theorem dL_law_1743 : decode code 1743 = .ok (.iadd, 1) := by decide +kernel
theorem dL_law_1744 : decode code 1744 = .ok (.iaload, 1) := by decide +kernel
theorem dL_law_1745 : decode code 1745 = .ok (.aload_n 0, 1) := by decide +kernel
theorem dL_law_1746 : decode code 1746 = .ok (.iload_n 3, 1) := by decide +kernel
theorem dL_law_1747 : decode code 1747 = .ok (.iconst 3, 1) := by decide +kernel
theorem dL_law_1748 : decode code 1748 = .ok (.iadd, 1) := by decide +kernel
theorem dL_law_1749 : decode code 1749 = .ok (.iaload, 1) := by decide +kernel
theorem dL_law_1750 : decode code 1750 = .ok (.invokevirtual 177, 3) := by decide +kernel
theorem kw_7_232 : (Jvm.Cond.methodLink "ParishUnionLaw" (177 : Nat) ({ cls := "ParishUnionModel", name := "choice", desc := "(III)I" } : Jvm.MethodName)) ∈ gT := gT_of (tb_7 _ (List.mem_of_getElem? (i := 232) rfl)) rfl
theorem kw_7_235 : (Jvm.Cond.code ({ cls := "ParishUnionModel", name := "choice", desc := "(III)I" } : Jvm.MethodName) prog_14_method_94_code (4 : Nat) (Option.some Jvm.ClassFile.FieldType.int)) ∈ gT := gT_of (tb_7 _ (List.mem_of_getElem? (i := 235) rfl)) rfl
theorem okX12_choice : gQok yX12_choice cX12_choice 4 (Option.some Jvm.ClassFile.FieldType.int) 3 := ⟨kw_7_235, kw_1_13, by decide +kernel, by decide +kernel, by decide +kernel⟩
theorem kw_7_233 : (Jvm.Cond.instanceMethod ({ cls := "ParishUnionModel", name := "choice", desc := "(III)I" } : Jvm.MethodName)) ∈ gT := gT_of (tb_7 _ (List.mem_of_getElem? (i := 233) rfl)) rfl
theorem kw_7_234 : (Jvm.Cond.selects "ParishUnionModel" ({ cls := "ParishUnionModel", name := "choice", desc := "(III)I" } : Jvm.MethodName) ({ cls := "ParishUnionModel", name := "choice", desc := "(III)I" } : Jvm.MethodName)) ∈ gT := gT_of (tb_7 _ (List.mem_of_getElem? (i := 234) rfl)) rfl
theorem dL_law_1753 : decode code 1753 = .ok (.if_icmp .eq 239, 3) := by decide +kernel
set_option maxRecDepth 100000 in
set_option maxHeartbeats 4000000 in
theorem law_case_37 {p : Program} {e : Env} {s : State} {m : MethodId} {below : List Frame} {meth : Method} {c : Code} {l : Launch} {D : va_G} {cA : Nat → ClassId} {b : Nat} {xs : Nat → Int32} (X : gCx p s m #[Value.ref b] meth c s.heap.size D cA "ParishUnionLaw" code 4) (hr : meth.sig.returnType = ret) (hb : b < s.heap.size ∧ va_X b 7 xs s s.heap) {M : gM} (hFr : gFr M) : G p l e room_1 s m #[Value.ref b] below meth c s.heap.size D cA 4 (lw_Z below #[Value.ref b] s) 206 87467 M 206 1715 [(3, gJ 0), (2, gA s.heap.size 190), (1, gA s.heap.size 0), (0, .ref b)] [] := by
  have rents := gFr_rents hFr
  have way := gFr_way hFr
  have beds := gFr_beds hFr
  have frost0 := gFr_frost0 hFr
  have rows0 := gFr_rows0 hFr
  have rooms0 := gFr_rooms0 hFr
  have tape0 := gFr_tape0 hFr
  have car0 := gFr_car0 hFr
  have hS := gFr_hS hFr
  obtain ⟨v0, e0, r0⟩ : ∃ z : Int, xs 0 = Int32.ofInt z ∧ -2147483648 ≤ z ∧ z ≤ 2147483647 := ⟨_, gi_of _, gi_rg _⟩
  obtain ⟨v1, e1, r1⟩ : ∃ z : Int, xs 1 = Int32.ofInt z ∧ -2147483648 ≤ z ∧ z ≤ 2147483647 := ⟨_, gi_of _, gi_rg _⟩
  obtain ⟨v2, e2, r2⟩ : ∃ z : Int, xs 2 = Int32.ofInt z ∧ -2147483648 ≤ z ∧ z ≤ 2147483647 := ⟨_, gi_of _, gi_rg _⟩
  obtain ⟨v3, e3, r3⟩ : ∃ z : Int, xs 3 = Int32.ofInt z ∧ -2147483648 ≤ z ∧ z ≤ 2147483647 := ⟨_, gi_of _, gi_rg _⟩
  obtain ⟨v4, e4, r4⟩ : ∃ z : Int, xs 4 = Int32.ofInt z ∧ -2147483648 ≤ z ∧ z ≤ 2147483647 := ⟨_, gi_of _, gi_rg _⟩
  obtain ⟨v5, e5, r5⟩ : ∃ z : Int, xs 5 = Int32.ofInt z ∧ -2147483648 ≤ z ∧ z ≤ 2147483647 := ⟨_, gi_of _, gi_rg _⟩
  obtain ⟨v6, e6, r6⟩ : ∃ z : Int, xs 6 = Int32.ofInt z ∧ -2147483648 ≤ z ∧ z ≤ 2147483647 := ⟨_, gi_of _, gi_rg _⟩
  refine g_aload_n (n := 1716) X 2 dL_law_1715 rfl rfl rfl ?_
  refine g_aload_n (n := 1717) X 3 dL_law_1716 rfl rfl rfl ?_
  refine g_iload_n (n := 1718) X 0 dL_law_1717 rfl rfl rfl ?_
  refine g_iconst (n := 1719) X dL_law_1718 rfl ?_
  refine g_iadd (n := 1720) (z := 1) X dL_law_1719 rfl rfl ?_
  refine g_scrld (n := 1721) (z := v1) X hb (by omega) (by omega) (by omega) dL_law_1720 rfl e1 ?_
  refine g_aload_n (n := 1722) X 3 dL_law_1721 rfl rfl rfl ?_
  refine g_iload_n (n := 1723) X 0 dL_law_1722 rfl rfl rfl ?_
  refine g_iconst (n := 1724) X dL_law_1723 rfl ?_
  refine g_iadd (n := 1725) (z := 2) X dL_law_1724 rfl rfl ?_
  refine g_scrld (n := 1726) (z := v2) X hb (by omega) (by omega) (by omega) dL_law_1725 rfl e2 ?_
  refine g_aload_n (n := 1727) X 3 dL_law_1726 rfl rfl rfl ?_
  refine g_iload_n (n := 1728) X 0 dL_law_1727 rfl rfl rfl ?_
  refine g_iconst (n := 1729) X dL_law_1728 rfl ?_
  refine g_iadd (n := 1730) (z := 3) X dL_law_1729 rfl rfl ?_
  refine g_scrld (n := 1731) (z := v3) X hb (by omega) (by omega) (by omega) dL_law_1730 rfl e3 ?_
  refine g_callVi (n := 1734) (As := [gJ v1, gJ v2, gJ v3]) (rest := []) (cs1 := 206) (ss1 := 87467) X (c_X11_choice v1 v2 v3 (by omega) (by omega) (by omega) (by omega) (gFr_0_0 hFr) (gFr_1_6 hFr) (gFr_15_7 hFr) (gFr_15_4 hFr) (gFr_15_5 hFr) (gFr_15_6 hFr)) okX11_choice kw_5_127 ⟨kw_5_128, kw_5_129⟩ ⟨rfl, rfl⟩ ⟨Nat.le_of_ble_eq_true rfl, Nat.le_of_ble_eq_true rfl⟩ rfl (by omega) (by omega) lay_0 rfl rfl (Nat.le_of_ble_eq_true rfl) ⟨Nat.le_of_ble_eq_true rfl, Nat.le_of_ble_eq_true rfl⟩ rfl rfl dL_law_1731 rfl (fun z1 M2 P3 => ?_)
  obtain ⟨P3, F4⟩ := P3
  refine g_aload_n (n := 1735) X 1 dL_law_1734 rfl rfl rfl ?_
  refine g_aload_n (n := 1736) X 3 dL_law_1735 rfl rfl rfl ?_
  refine g_iload_n (n := 1737) X 0 dL_law_1736 rfl rfl rfl ?_
  refine g_iconst (n := 1738) X dL_law_1737 rfl ?_
  refine g_iadd (n := 1739) (z := 1) X dL_law_1738 rfl rfl ?_
  refine g_scrld (n := 1740) (z := v1) X hb (by omega) (by omega) (by omega) dL_law_1739 rfl e1 ?_
  refine g_aload_n (n := 1741) X 3 dL_law_1740 rfl rfl rfl ?_
  refine g_iload_n (n := 1742) X 0 dL_law_1741 rfl rfl rfl ?_
  refine g_iconst (n := 1743) X dL_law_1742 rfl ?_
  refine g_iadd (n := 1744) (z := 2) X dL_law_1743 rfl rfl ?_
  refine g_scrld (n := 1745) (z := v2) X hb (by omega) (by omega) (by omega) dL_law_1744 rfl e2 ?_
  refine g_aload_n (n := 1746) X 3 dL_law_1745 rfl rfl rfl ?_
  refine g_iload_n (n := 1747) X 0 dL_law_1746 rfl rfl rfl ?_
  refine g_iconst (n := 1748) X dL_law_1747 rfl ?_
  refine g_iadd (n := 1749) (z := 3) X dL_law_1748 rfl rfl ?_
  refine g_scrld (n := 1750) (z := v3) X hb (by omega) (by omega) (by omega) dL_law_1749 rfl e3 ?_
  refine g_callVi (n := 1753) (As := [gJ v1, gJ v2, gJ v3]) (rest := [gJ z1]) (cs1 := 206) (ss1 := 87467) X (c_X12_choice v1 v2 v3 (by omega) (by omega) (by omega) (by omega) ((congrFun (F4 190 (by omega) (by omega) (by omega) (by omega)) _).trans (gFr_190_1 hFr)) ((congrFun (F4 191 (by omega) (by omega) (by omega) (by omega)) _).trans ((hS 7 (by omega) (by omega)).trans (by decide)))) okX12_choice kw_7_232 ⟨kw_7_233, kw_7_234⟩ ⟨rfl, rfl⟩ ⟨Nat.le_of_ble_eq_true rfl, Nat.le_of_ble_eq_true rfl⟩ rfl (by omega) (by omega) lay_190 rfl rfl (Nat.le_of_ble_eq_true rfl) ⟨Nat.le_of_ble_eq_true rfl, Nat.le_of_ble_eq_true rfl⟩ rfl rfl dL_law_1750 rfl (fun z5 M6 P7 => ?_)
  obtain ⟨P7, F8⟩ := P7
  refine g_icmp_eq (n := 1756) (tgt := 1992) X dL_law_1753 (by decide) (by omega) (by omega) rfl (fun c9 => ?_) (fun c9 => by exfalso; omega)
  exact law_tail X hr hb (by omega) (by omega)
theorem dL_law_1758 : decode code 1758 = .ok (.aload_n 1, 1) := by decide +kernel
theorem dL_law_1759 : decode code 1759 = .ok (.aload_n 0, 1) := by decide +kernel
theorem dL_law_1760 : decode code 1760 = .ok (.iload_n 3, 1) := by decide +kernel
theorem dL_law_1761 : decode code 1761 = .ok (.iconst 1, 1) := by decide +kernel
theorem dL_law_1762 : decode code 1762 = .ok (.iadd, 1) := by decide +kernel
theorem dL_law_1763 : decode code 1763 = .ok (.iaload, 1) := by decide +kernel
theorem dL_law_1764 : decode code 1764 = .ok (.aload_n 0, 1) := by decide +kernel
theorem dL_law_1765 : decode code 1765 = .ok (.iload_n 3, 1) := by decide +kernel
theorem dL_law_1766 : decode code 1766 = .ok (.iconst 2, 1) := by decide +kernel
theorem dL_law_1767 : decode code 1767 = .ok (.iadd, 1) := by decide +kernel
theorem dL_law_1768 : decode code 1768 = .ok (.iaload, 1) := by decide +kernel
theorem dL_law_1769 : decode code 1769 = .ok (.i2l, 1) := by decide +kernel
theorem dL_law_1770 : decode code 1770 = .ok (.bipush 32, 2) := by decide +kernel
theorem dL_law_1772 : decode code 1772 = .ok (.lshl, 1) := by decide +kernel
theorem dL_law_1773 : decode code 1773 = .ok (.aload_n 0, 1) := by decide +kernel
theorem dL_law_1774 : decode code 1774 = .ok (.iload_n 3, 1) := by decide +kernel
theorem dL_law_1775 : decode code 1775 = .ok (.iconst 3, 1) := by decide +kernel
theorem dL_law_1776 : decode code 1776 = .ok (.iadd, 1) := by decide +kernel
theorem dL_law_1777 : decode code 1777 = .ok (.iaload, 1) := by decide +kernel
theorem dL_law_1778 : decode code 1778 = .ok (.i2l, 1) := by decide +kernel
theorem dL_law_1779 : decode code 1779 = .ok (.ldc2_w 73, 3) := by decide +kernel
theorem dL_law_1782 : decode code 1782 = .ok (.land, 1) := by decide +kernel
theorem dL_law_1783 : decode code 1783 = .ok (.lor, 1) := by decide +kernel
theorem dL_law_1784 : decode code 1784 = .ok (.aload_n 0, 1) := by decide +kernel
theorem dL_law_1785 : decode code 1785 = .ok (.iload_n 3, 1) := by decide +kernel
theorem dL_law_1786 : decode code 1786 = .ok (.iconst 4, 1) := by decide +kernel
theorem dL_law_1787 : decode code 1787 = .ok (.iadd, 1) := by decide +kernel
theorem dL_law_1788 : decode code 1788 = .ok (.iaload, 1) := by decide +kernel
theorem dL_law_1789 : decode code 1789 = .ok (.invokevirtual 178, 3) := by decide +kernel
theorem kw_5_135 : (Jvm.Cond.methodLink "ParishUnionLaw" (178 : Nat) ({ cls := "ParishUnion", name := "frosts", desc := "(IJI)I" } : Jvm.MethodName)) ∈ gT := gT_of (tb_5 _ (List.mem_of_getElem? (i := 135) rfl)) rfl
theorem kw_5_138 : (Jvm.Cond.code ({ cls := "ParishUnion", name := "frosts", desc := "(IJI)I" } : Jvm.MethodName) prog_1_method_40_code (8 : Nat) (Option.some Jvm.ClassFile.FieldType.int)) ∈ gT := gT_of (tb_5 _ (List.mem_of_getElem? (i := 138) rfl)) rfl
theorem okX11_frosts : gQok yX11_frosts cX11_frosts 8 (Option.some Jvm.ClassFile.FieldType.int) 3 := ⟨kw_5_138, kw_1_1, by decide +kernel, by decide +kernel, by decide +kernel⟩
theorem kw_5_136 : (Jvm.Cond.instanceMethod ({ cls := "ParishUnion", name := "frosts", desc := "(IJI)I" } : Jvm.MethodName)) ∈ gT := gT_of (tb_5 _ (List.mem_of_getElem? (i := 136) rfl)) rfl
theorem kw_5_137 : (Jvm.Cond.selects "ParishUnion" ({ cls := "ParishUnion", name := "frosts", desc := "(IJI)I" } : Jvm.MethodName) ({ cls := "ParishUnion", name := "frosts", desc := "(IJI)I" } : Jvm.MethodName)) ∈ gT := gT_of (tb_5 _ (List.mem_of_getElem? (i := 137) rfl)) rfl
theorem dL_law_1792 : decode code 1792 = .ok (.aload_n 2, 1) := by decide +kernel
theorem dL_law_1793 : decode code 1793 = .ok (.aload_n 0, 1) := by decide +kernel
theorem dL_law_1794 : decode code 1794 = .ok (.iload_n 3, 1) := by decide +kernel
theorem dL_law_1795 : decode code 1795 = .ok (.iconst 1, 1) := by decide +kernel
theorem dL_law_1796 : decode code 1796 = .ok (.iadd, 1) := by decide +kernel
theorem dL_law_1797 : decode code 1797 = .ok (.iaload, 1) := by decide +kernel
theorem dL_law_1798 : decode code 1798 = .ok (.aload_n 0, 1) := by decide +kernel
theorem dL_law_1799 : decode code 1799 = .ok (.iload_n 3, 1) := by decide +kernel
theorem dL_law_1800 : decode code 1800 = .ok (.iconst 2, 1) := by decide +kernel
theorem dL_law_1801 : decode code 1801 = .ok (.iadd, 1) := by decide +kernel
theorem dL_law_1802 : decode code 1802 = .ok (.iaload, 1) := by decide +kernel
theorem dL_law_1803 : decode code 1803 = .ok (.i2l, 1) := by decide +kernel
theorem dL_law_1804 : decode code 1804 = .ok (.bipush 32, 2) := by decide +kernel
theorem dL_law_1806 : decode code 1806 = .ok (.lshl, 1) := by decide +kernel
theorem dL_law_1807 : decode code 1807 = .ok (.aload_n 0, 1) := by decide +kernel
theorem dL_law_1808 : decode code 1808 = .ok (.iload_n 3, 1) := by decide +kernel
theorem dL_law_1809 : decode code 1809 = .ok (.iconst 3, 1) := by decide +kernel
theorem dL_law_1810 : decode code 1810 = .ok (.iadd, 1) := by decide +kernel
theorem dL_law_1811 : decode code 1811 = .ok (.iaload, 1) := by decide +kernel
theorem dL_law_1812 : decode code 1812 = .ok (.i2l, 1) := by decide +kernel
theorem dL_law_1813 : decode code 1813 = .ok (.ldc2_w 73, 3) := by decide +kernel
theorem dL_law_1816 : decode code 1816 = .ok (.land, 1) := by decide +kernel
theorem dL_law_1817 : decode code 1817 = .ok (.lor, 1) := by decide +kernel
theorem dL_law_1818 : decode code 1818 = .ok (.aload_n 0, 1) := by decide +kernel
theorem dL_law_1819 : decode code 1819 = .ok (.iload_n 3, 1) := by decide +kernel
theorem dL_law_1820 : decode code 1820 = .ok (.iconst 4, 1) := by decide +kernel
theorem dL_law_1821 : decode code 1821 = .ok (.iadd, 1) := by decide +kernel
theorem dL_law_1822 : decode code 1822 = .ok (.iaload, 1) := by decide +kernel
theorem dL_law_1823 : decode code 1823 = .ok (.invokevirtual 182, 3) := by decide +kernel
theorem kw_7_236 : (Jvm.Cond.methodLink "ParishUnionLaw" (182 : Nat) ({ cls := "ParishUnionModel", name := "frosts", desc := "(IJI)I" } : Jvm.MethodName)) ∈ gT := gT_of (tb_7 _ (List.mem_of_getElem? (i := 236) rfl)) rfl
theorem kw_7_239 : (Jvm.Cond.code ({ cls := "ParishUnionModel", name := "frosts", desc := "(IJI)I" } : Jvm.MethodName) prog_14_method_95_code (10 : Nat) (Option.some Jvm.ClassFile.FieldType.int)) ∈ gT := gT_of (tb_7 _ (List.mem_of_getElem? (i := 239) rfl)) rfl
theorem okX12_frosts : gQok yX12_frosts cX12_frosts 10 (Option.some Jvm.ClassFile.FieldType.int) 3 := ⟨kw_7_239, kw_1_13, by decide +kernel, by decide +kernel, by decide +kernel⟩
theorem kw_7_237 : (Jvm.Cond.instanceMethod ({ cls := "ParishUnionModel", name := "frosts", desc := "(IJI)I" } : Jvm.MethodName)) ∈ gT := gT_of (tb_7 _ (List.mem_of_getElem? (i := 237) rfl)) rfl
theorem kw_7_238 : (Jvm.Cond.selects "ParishUnionModel" ({ cls := "ParishUnionModel", name := "frosts", desc := "(IJI)I" } : Jvm.MethodName) ({ cls := "ParishUnionModel", name := "frosts", desc := "(IJI)I" } : Jvm.MethodName)) ∈ gT := gT_of (tb_7 _ (List.mem_of_getElem? (i := 238) rfl)) rfl
theorem dL_law_1826 : decode code 1826 = .ok (.if_icmp .eq 166, 3) := by decide +kernel
set_option maxRecDepth 100000 in
set_option maxHeartbeats 4000000 in
theorem law_case_38 {p : Program} {e : Env} {s : State} {m : MethodId} {below : List Frame} {meth : Method} {c : Code} {l : Launch} {D : va_G} {cA : Nat → ClassId} {b : Nat} {xs : Nat → Int32} (X : gCx p s m #[Value.ref b] meth c s.heap.size D cA "ParishUnionLaw" code 4) (hr : meth.sig.returnType = ret) (hb : b < s.heap.size ∧ va_X b 7 xs s s.heap) {M : gM} (hFr : gFr M) : G p l e room_1 s m #[Value.ref b] below meth c s.heap.size D cA 4 (lw_Z below #[Value.ref b] s) 206 87467 M 206 1758 [(3, gJ 0), (2, gA s.heap.size 190), (1, gA s.heap.size 0), (0, .ref b)] [] := by
  have rents := gFr_rents hFr
  have way := gFr_way hFr
  have beds := gFr_beds hFr
  have frost0 := gFr_frost0 hFr
  have rows0 := gFr_rows0 hFr
  have rooms0 := gFr_rooms0 hFr
  have tape0 := gFr_tape0 hFr
  have car0 := gFr_car0 hFr
  have hS := gFr_hS hFr
  obtain ⟨v0, e0, r0⟩ : ∃ z : Int, xs 0 = Int32.ofInt z ∧ -2147483648 ≤ z ∧ z ≤ 2147483647 := ⟨_, gi_of _, gi_rg _⟩
  obtain ⟨v1, e1, r1⟩ : ∃ z : Int, xs 1 = Int32.ofInt z ∧ -2147483648 ≤ z ∧ z ≤ 2147483647 := ⟨_, gi_of _, gi_rg _⟩
  obtain ⟨v2, e2, r2⟩ : ∃ z : Int, xs 2 = Int32.ofInt z ∧ -2147483648 ≤ z ∧ z ≤ 2147483647 := ⟨_, gi_of _, gi_rg _⟩
  obtain ⟨v3, e3, r3⟩ : ∃ z : Int, xs 3 = Int32.ofInt z ∧ -2147483648 ≤ z ∧ z ≤ 2147483647 := ⟨_, gi_of _, gi_rg _⟩
  obtain ⟨v4, e4, r4⟩ : ∃ z : Int, xs 4 = Int32.ofInt z ∧ -2147483648 ≤ z ∧ z ≤ 2147483647 := ⟨_, gi_of _, gi_rg _⟩
  obtain ⟨v5, e5, r5⟩ : ∃ z : Int, xs 5 = Int32.ofInt z ∧ -2147483648 ≤ z ∧ z ≤ 2147483647 := ⟨_, gi_of _, gi_rg _⟩
  obtain ⟨v6, e6, r6⟩ : ∃ z : Int, xs 6 = Int32.ofInt z ∧ -2147483648 ≤ z ∧ z ≤ 2147483647 := ⟨_, gi_of _, gi_rg _⟩
  refine g_aload_n (n := 1759) X 2 dL_law_1758 rfl rfl rfl ?_
  refine g_aload_n (n := 1760) X 3 dL_law_1759 rfl rfl rfl ?_
  refine g_iload_n (n := 1761) X 0 dL_law_1760 rfl rfl rfl ?_
  refine g_iconst (n := 1762) X dL_law_1761 rfl ?_
  refine g_iadd (n := 1763) (z := 1) X dL_law_1762 rfl rfl ?_
  refine g_scrld (n := 1764) (z := v1) X hb (by omega) (by omega) (by omega) dL_law_1763 rfl e1 ?_
  refine g_aload_n (n := 1765) X 3 dL_law_1764 rfl rfl rfl ?_
  refine g_iload_n (n := 1766) X 0 dL_law_1765 rfl rfl rfl ?_
  refine g_iconst (n := 1767) X dL_law_1766 rfl ?_
  refine g_iadd (n := 1768) (z := 2) X dL_law_1767 rfl rfl ?_
  refine g_scrld (n := 1769) (z := v2) X hb (by omega) (by omega) (by omega) dL_law_1768 rfl e2 ?_
  have rq1769 := gl_rg ((Int32.ofInt v2).toInt64)
  refine g_i2lE (n := 1770) (z := ((Int32.ofInt v2).toInt64).toInt) X dL_law_1769 (gl_of _) rfl ?_
  refine g_bipush (n := 1772) X dL_law_1770 (by decide +kernel) rfl ?_
  have rq1772 := gl_rg (Int64.ofInt (((Int32.ofInt v2).toInt64).toInt) <<< ((Int32.ofInt 32).toInt64 &&& 63))
  refine g_lshlE (n := 1773) (z := (Int64.ofInt (((Int32.ofInt v2).toInt64).toInt) <<< ((Int32.ofInt 32).toInt64 &&& 63)).toInt) X dL_law_1772 (gl_of _) rfl ?_
  refine g_aload_n (n := 1774) X 3 dL_law_1773 rfl rfl rfl ?_
  refine g_iload_n (n := 1775) X 0 dL_law_1774 rfl rfl rfl ?_
  refine g_iconst (n := 1776) X dL_law_1775 rfl ?_
  refine g_iadd (n := 1777) (z := 3) X dL_law_1776 rfl rfl ?_
  refine g_scrld (n := 1778) (z := v3) X hb (by omega) (by omega) (by omega) dL_law_1777 rfl e3 ?_
  have rq1778 := gl_rg ((Int32.ofInt v3).toInt64)
  refine g_i2lE (n := 1779) (z := ((Int32.ofInt v3).toInt64).toInt) X dL_law_1778 (gl_of _) rfl ?_
  refine g_ldc2 (n := 1782) (z := 4294967295) X dL_law_1779 kw_8_53 (by decide +kernel) rfl ?_
  have rq1782 := gl_rg (Int64.ofInt (((Int32.ofInt v3).toInt64).toInt) &&& Int64.ofInt 4294967295)
  refine g_landE (n := 1783) (z := (Int64.ofInt (((Int32.ofInt v3).toInt64).toInt) &&& Int64.ofInt 4294967295).toInt) X dL_law_1782 (gl_of _) rfl ?_
  have rq1783 := gl_rg (Int64.ofInt ((Int64.ofInt (((Int32.ofInt v2).toInt64).toInt) <<< ((Int32.ofInt 32).toInt64 &&& 63)).toInt) ||| Int64.ofInt ((Int64.ofInt (((Int32.ofInt v3).toInt64).toInt) &&& Int64.ofInt 4294967295).toInt))
  refine g_lorE (n := 1784) (z := (Int64.ofInt ((Int64.ofInt (((Int32.ofInt v2).toInt64).toInt) <<< ((Int32.ofInt 32).toInt64 &&& 63)).toInt) ||| Int64.ofInt ((Int64.ofInt (((Int32.ofInt v3).toInt64).toInt) &&& Int64.ofInt 4294967295).toInt)).toInt) X dL_law_1783 (gl_of _) rfl ?_
  refine g_aload_n (n := 1785) X 3 dL_law_1784 rfl rfl rfl ?_
  refine g_iload_n (n := 1786) X 0 dL_law_1785 rfl rfl rfl ?_
  refine g_iconst (n := 1787) X dL_law_1786 rfl ?_
  refine g_iadd (n := 1788) (z := 4) X dL_law_1787 rfl rfl ?_
  refine g_scrld (n := 1789) (z := v4) X hb (by omega) (by omega) (by omega) dL_law_1788 rfl e4 ?_
  refine g_callVi (n := 1792) (As := [gJ v1, gV ((Int64.ofInt ((Int64.ofInt (((Int32.ofInt v2).toInt64).toInt) <<< ((Int32.ofInt 32).toInt64 &&& 63)).toInt) ||| Int64.ofInt ((Int64.ofInt (((Int32.ofInt v3).toInt64).toInt) &&& Int64.ofInt 4294967295).toInt)).toInt), gJ v4]) (rest := []) (cs1 := 206) (ss1 := 87467) X (c_X11_frosts v1 ((Int64.ofInt ((Int64.ofInt (((Int32.ofInt v2).toInt64).toInt) <<< ((Int32.ofInt 32).toInt64 &&& 63)).toInt) ||| Int64.ofInt ((Int64.ofInt (((Int32.ofInt v3).toInt64).toInt) &&& Int64.ofInt 4294967295).toInt)).toInt) v4 (by omega) (by omega) (by omega) (by omega) (gFr_0_0 hFr) (gFr_1_6 hFr) (gFr_15_3 hFr) (gFr_15_2 hFr)) okX11_frosts kw_5_135 ⟨kw_5_136, kw_5_137⟩ ⟨rfl, rfl⟩ ⟨Nat.le_of_ble_eq_true rfl, Nat.le_of_ble_eq_true rfl⟩ rfl (by omega) (by omega) lay_0 rfl rfl (Nat.le_of_ble_eq_true rfl) ⟨Nat.le_of_ble_eq_true rfl, Nat.le_of_ble_eq_true rfl⟩ rfl rfl dL_law_1789 rfl (fun z1 M2 P3 => ?_)
  obtain ⟨P3, F4⟩ := P3
  refine g_aload_n (n := 1793) X 1 dL_law_1792 rfl rfl rfl ?_
  refine g_aload_n (n := 1794) X 3 dL_law_1793 rfl rfl rfl ?_
  refine g_iload_n (n := 1795) X 0 dL_law_1794 rfl rfl rfl ?_
  refine g_iconst (n := 1796) X dL_law_1795 rfl ?_
  refine g_iadd (n := 1797) (z := 1) X dL_law_1796 rfl rfl ?_
  refine g_scrld (n := 1798) (z := v1) X hb (by omega) (by omega) (by omega) dL_law_1797 rfl e1 ?_
  refine g_aload_n (n := 1799) X 3 dL_law_1798 rfl rfl rfl ?_
  refine g_iload_n (n := 1800) X 0 dL_law_1799 rfl rfl rfl ?_
  refine g_iconst (n := 1801) X dL_law_1800 rfl ?_
  refine g_iadd (n := 1802) (z := 2) X dL_law_1801 rfl rfl ?_
  refine g_scrld (n := 1803) (z := v2) X hb (by omega) (by omega) (by omega) dL_law_1802 rfl e2 ?_
  have rq1803 := gl_rg ((Int32.ofInt v2).toInt64)
  refine g_i2lE (n := 1804) (z := ((Int32.ofInt v2).toInt64).toInt) X dL_law_1803 (gl_of _) rfl ?_
  refine g_bipush (n := 1806) X dL_law_1804 (by decide +kernel) rfl ?_
  have rq1806 := gl_rg (Int64.ofInt (((Int32.ofInt v2).toInt64).toInt) <<< ((Int32.ofInt 32).toInt64 &&& 63))
  refine g_lshlE (n := 1807) (z := (Int64.ofInt (((Int32.ofInt v2).toInt64).toInt) <<< ((Int32.ofInt 32).toInt64 &&& 63)).toInt) X dL_law_1806 (gl_of _) rfl ?_
  refine g_aload_n (n := 1808) X 3 dL_law_1807 rfl rfl rfl ?_
  refine g_iload_n (n := 1809) X 0 dL_law_1808 rfl rfl rfl ?_
  refine g_iconst (n := 1810) X dL_law_1809 rfl ?_
  refine g_iadd (n := 1811) (z := 3) X dL_law_1810 rfl rfl ?_
  refine g_scrld (n := 1812) (z := v3) X hb (by omega) (by omega) (by omega) dL_law_1811 rfl e3 ?_
  have rq1812 := gl_rg ((Int32.ofInt v3).toInt64)
  refine g_i2lE (n := 1813) (z := ((Int32.ofInt v3).toInt64).toInt) X dL_law_1812 (gl_of _) rfl ?_
  refine g_ldc2 (n := 1816) (z := 4294967295) X dL_law_1813 kw_8_53 (by decide +kernel) rfl ?_
  have rq1816 := gl_rg (Int64.ofInt (((Int32.ofInt v3).toInt64).toInt) &&& Int64.ofInt 4294967295)
  refine g_landE (n := 1817) (z := (Int64.ofInt (((Int32.ofInt v3).toInt64).toInt) &&& Int64.ofInt 4294967295).toInt) X dL_law_1816 (gl_of _) rfl ?_
  have rq1817 := gl_rg (Int64.ofInt ((Int64.ofInt (((Int32.ofInt v2).toInt64).toInt) <<< ((Int32.ofInt 32).toInt64 &&& 63)).toInt) ||| Int64.ofInt ((Int64.ofInt (((Int32.ofInt v3).toInt64).toInt) &&& Int64.ofInt 4294967295).toInt))
  refine g_lorE (n := 1818) (z := (Int64.ofInt ((Int64.ofInt (((Int32.ofInt v2).toInt64).toInt) <<< ((Int32.ofInt 32).toInt64 &&& 63)).toInt) ||| Int64.ofInt ((Int64.ofInt (((Int32.ofInt v3).toInt64).toInt) &&& Int64.ofInt 4294967295).toInt)).toInt) X dL_law_1817 (gl_of _) rfl ?_
  refine g_aload_n (n := 1819) X 3 dL_law_1818 rfl rfl rfl ?_
  refine g_iload_n (n := 1820) X 0 dL_law_1819 rfl rfl rfl ?_
  refine g_iconst (n := 1821) X dL_law_1820 rfl ?_
  refine g_iadd (n := 1822) (z := 4) X dL_law_1821 rfl rfl ?_
  refine g_scrld (n := 1823) (z := v4) X hb (by omega) (by omega) (by omega) dL_law_1822 rfl e4 ?_
  refine g_callVi (n := 1826) (As := [gJ v1, gV ((Int64.ofInt ((Int64.ofInt (((Int32.ofInt v2).toInt64).toInt) <<< ((Int32.ofInt 32).toInt64 &&& 63)).toInt) ||| Int64.ofInt ((Int64.ofInt (((Int32.ofInt v3).toInt64).toInt) &&& Int64.ofInt 4294967295).toInt)).toInt), gJ v4]) (rest := [gJ z1]) (cs1 := 206) (ss1 := 87467) X (c_X12_frosts v1 ((Int64.ofInt ((Int64.ofInt (((Int32.ofInt v2).toInt64).toInt) <<< ((Int32.ofInt 32).toInt64 &&& 63)).toInt) ||| Int64.ofInt ((Int64.ofInt (((Int32.ofInt v3).toInt64).toInt) &&& Int64.ofInt 4294967295).toInt)).toInt) v4 (by omega) (by omega) (by omega) (by omega) ((congrFun (F4 190 (by omega) (by omega)) _).trans (gFr_190_1 hFr))) okX12_frosts kw_7_236 ⟨kw_7_237, kw_7_238⟩ ⟨rfl, rfl⟩ ⟨Nat.le_of_ble_eq_true rfl, Nat.le_of_ble_eq_true rfl⟩ rfl (by omega) (by omega) lay_190 rfl rfl (Nat.le_of_ble_eq_true rfl) ⟨Nat.le_of_ble_eq_true rfl, Nat.le_of_ble_eq_true rfl⟩ rfl rfl dL_law_1823 rfl (fun z5 M6 P7 => ?_)
  obtain ⟨P7, F8⟩ := P7
  refine g_icmp_eq (n := 1829) (tgt := 1992) X dL_law_1826 (by decide) (by omega) (by omega) rfl (fun c9 => ?_) (fun c9 => by exfalso; omega)
  exact law_tail X hr hb (by omega) (by omega)
theorem dL_law_1831 : decode code 1831 = .ok (.aload_n 1, 1) := by decide +kernel
theorem dL_law_1832 : decode code 1832 = .ok (.aload_n 0, 1) := by decide +kernel
theorem dL_law_1833 : decode code 1833 = .ok (.iload_n 3, 1) := by decide +kernel
theorem dL_law_1834 : decode code 1834 = .ok (.iconst 1, 1) := by decide +kernel
theorem dL_law_1835 : decode code 1835 = .ok (.iadd, 1) := by decide +kernel
theorem dL_law_1836 : decode code 1836 = .ok (.iaload, 1) := by decide +kernel
theorem dL_law_1837 : decode code 1837 = .ok (.invokevirtual 183, 3) := by decide +kernel
theorem kw_5_145 : (Jvm.Cond.methodLink "ParishUnionLaw" (183 : Nat) ({ cls := "ParishUnion", name := "plan", desc := "(I)I" } : Jvm.MethodName)) ∈ gT := gT_of (tb_5 _ (List.mem_of_getElem? (i := 145) rfl)) rfl
theorem kw_5_148 : (Jvm.Cond.code ({ cls := "ParishUnion", name := "plan", desc := "(I)I" } : Jvm.MethodName) prog_1_method_41_code (7 : Nat) (Option.some Jvm.ClassFile.FieldType.int)) ∈ gT := gT_of (tb_5 _ (List.mem_of_getElem? (i := 148) rfl)) rfl
theorem okX11_plan : gQok yX11_plan cX11_plan 7 (Option.some Jvm.ClassFile.FieldType.int) 1 := ⟨kw_5_148, kw_1_1, by decide +kernel, by decide +kernel, by decide +kernel⟩
theorem kw_5_146 : (Jvm.Cond.instanceMethod ({ cls := "ParishUnion", name := "plan", desc := "(I)I" } : Jvm.MethodName)) ∈ gT := gT_of (tb_5 _ (List.mem_of_getElem? (i := 146) rfl)) rfl
theorem kw_5_147 : (Jvm.Cond.selects "ParishUnion" ({ cls := "ParishUnion", name := "plan", desc := "(I)I" } : Jvm.MethodName) ({ cls := "ParishUnion", name := "plan", desc := "(I)I" } : Jvm.MethodName)) ∈ gT := gT_of (tb_5 _ (List.mem_of_getElem? (i := 147) rfl)) rfl
theorem dL_law_1840 : decode code 1840 = .ok (.aload_n 2, 1) := by decide +kernel
theorem dL_law_1841 : decode code 1841 = .ok (.aload_n 0, 1) := by decide +kernel
theorem dL_law_1842 : decode code 1842 = .ok (.iload_n 3, 1) := by decide +kernel
theorem dL_law_1843 : decode code 1843 = .ok (.iconst 1, 1) := by decide +kernel
theorem dL_law_1844 : decode code 1844 = .ok (.iadd, 1) := by decide +kernel
theorem dL_law_1845 : decode code 1845 = .ok (.iaload, 1) := by decide +kernel
theorem dL_law_1846 : decode code 1846 = .ok (.invokevirtual 186, 3) := by decide +kernel
theorem kw_8_1 : (Jvm.Cond.methodLink "ParishUnionLaw" (186 : Nat) ({ cls := "ParishUnionModel", name := "plan", desc := "(I)I" } : Jvm.MethodName)) ∈ gT := gT_of (tb_8 _ (List.mem_of_getElem? (i := 1) rfl)) rfl
theorem kw_8_4 : (Jvm.Cond.code ({ cls := "ParishUnionModel", name := "plan", desc := "(I)I" } : Jvm.MethodName) prog_14_method_101_code (8 : Nat) (Option.some Jvm.ClassFile.FieldType.int)) ∈ gT := gT_of (tb_8 _ (List.mem_of_getElem? (i := 4) rfl)) rfl
theorem okX12_plan : gQok yX12_plan cX12_plan 8 (Option.some Jvm.ClassFile.FieldType.int) 1 := ⟨kw_8_4, kw_1_13, by decide +kernel, by decide +kernel, by decide +kernel⟩
theorem kw_8_2 : (Jvm.Cond.instanceMethod ({ cls := "ParishUnionModel", name := "plan", desc := "(I)I" } : Jvm.MethodName)) ∈ gT := gT_of (tb_8 _ (List.mem_of_getElem? (i := 2) rfl)) rfl
theorem kw_8_3 : (Jvm.Cond.selects "ParishUnionModel" ({ cls := "ParishUnionModel", name := "plan", desc := "(I)I" } : Jvm.MethodName) ({ cls := "ParishUnionModel", name := "plan", desc := "(I)I" } : Jvm.MethodName)) ∈ gT := gT_of (tb_8 _ (List.mem_of_getElem? (i := 3) rfl)) rfl
theorem dL_law_1849 : decode code 1849 = .ok (.if_icmp .eq 143, 3) := by decide +kernel
set_option maxRecDepth 100000 in
set_option maxHeartbeats 4000000 in
theorem law_case_39 {p : Program} {e : Env} {s : State} {m : MethodId} {below : List Frame} {meth : Method} {c : Code} {l : Launch} {D : va_G} {cA : Nat → ClassId} {b : Nat} {xs : Nat → Int32} (X : gCx p s m #[Value.ref b] meth c s.heap.size D cA "ParishUnionLaw" code 4) (hr : meth.sig.returnType = ret) (hb : b < s.heap.size ∧ va_X b 7 xs s s.heap) {M : gM} (hFr : gFr M) : G p l e room_1 s m #[Value.ref b] below meth c s.heap.size D cA 4 (lw_Z below #[Value.ref b] s) 206 87467 M 206 1831 [(3, gJ 0), (2, gA s.heap.size 190), (1, gA s.heap.size 0), (0, .ref b)] [] := by
  have rents := gFr_rents hFr
  have way := gFr_way hFr
  have beds := gFr_beds hFr
  have frost0 := gFr_frost0 hFr
  have rows0 := gFr_rows0 hFr
  have rooms0 := gFr_rooms0 hFr
  have tape0 := gFr_tape0 hFr
  have car0 := gFr_car0 hFr
  have hS := gFr_hS hFr
  obtain ⟨v0, e0, r0⟩ : ∃ z : Int, xs 0 = Int32.ofInt z ∧ -2147483648 ≤ z ∧ z ≤ 2147483647 := ⟨_, gi_of _, gi_rg _⟩
  obtain ⟨v1, e1, r1⟩ : ∃ z : Int, xs 1 = Int32.ofInt z ∧ -2147483648 ≤ z ∧ z ≤ 2147483647 := ⟨_, gi_of _, gi_rg _⟩
  obtain ⟨v2, e2, r2⟩ : ∃ z : Int, xs 2 = Int32.ofInt z ∧ -2147483648 ≤ z ∧ z ≤ 2147483647 := ⟨_, gi_of _, gi_rg _⟩
  obtain ⟨v3, e3, r3⟩ : ∃ z : Int, xs 3 = Int32.ofInt z ∧ -2147483648 ≤ z ∧ z ≤ 2147483647 := ⟨_, gi_of _, gi_rg _⟩
  obtain ⟨v4, e4, r4⟩ : ∃ z : Int, xs 4 = Int32.ofInt z ∧ -2147483648 ≤ z ∧ z ≤ 2147483647 := ⟨_, gi_of _, gi_rg _⟩
  obtain ⟨v5, e5, r5⟩ : ∃ z : Int, xs 5 = Int32.ofInt z ∧ -2147483648 ≤ z ∧ z ≤ 2147483647 := ⟨_, gi_of _, gi_rg _⟩
  obtain ⟨v6, e6, r6⟩ : ∃ z : Int, xs 6 = Int32.ofInt z ∧ -2147483648 ≤ z ∧ z ≤ 2147483647 := ⟨_, gi_of _, gi_rg _⟩
  refine g_aload_n (n := 1832) X 2 dL_law_1831 rfl rfl rfl ?_
  refine g_aload_n (n := 1833) X 3 dL_law_1832 rfl rfl rfl ?_
  refine g_iload_n (n := 1834) X 0 dL_law_1833 rfl rfl rfl ?_
  refine g_iconst (n := 1835) X dL_law_1834 rfl ?_
  refine g_iadd (n := 1836) (z := 1) X dL_law_1835 rfl rfl ?_
  refine g_scrld (n := 1837) (z := v1) X hb (by omega) (by omega) (by omega) dL_law_1836 rfl e1 ?_
  refine g_callVi (n := 1840) (As := [gJ v1]) (rest := []) (cs1 := 206) (ss1 := 87467) X (c_X11_plan v1 (by omega) (by omega) (gFr_0_0 hFr) (gFr_1_15 hFr) (gFr_1_6 hFr) (gFr_15_2 hFr) rows0) okX11_plan kw_5_145 ⟨kw_5_146, kw_5_147⟩ ⟨rfl, rfl⟩ ⟨Nat.le_of_ble_eq_true rfl, Nat.le_of_ble_eq_true rfl⟩ rfl (by omega) (by omega) lay_0 rfl rfl (Nat.le_of_ble_eq_true rfl) ⟨Nat.le_of_ble_eq_true rfl, Nat.le_of_ble_eq_true rfl⟩ rfl rfl dL_law_1837 rfl (fun z1 M2 P3 => ?_)
  obtain ⟨P3, F4⟩ := P3
  refine g_aload_n (n := 1841) X 1 dL_law_1840 rfl rfl rfl ?_
  refine g_aload_n (n := 1842) X 3 dL_law_1841 rfl rfl rfl ?_
  refine g_iload_n (n := 1843) X 0 dL_law_1842 rfl rfl rfl ?_
  refine g_iconst (n := 1844) X dL_law_1843 rfl ?_
  refine g_iadd (n := 1845) (z := 1) X dL_law_1844 rfl rfl ?_
  refine g_scrld (n := 1846) (z := v1) X hb (by omega) (by omega) (by omega) dL_law_1845 rfl e1 ?_
  refine g_callVi (n := 1849) (As := [gJ v1]) (rest := [gJ z1]) (cs1 := 206) (ss1 := 87467) X (c_X12_plan v1 (by omega) (by omega) ((congrFun (F4 190) _).trans (gFr_190_1 hFr)) (fun i h0 h1 => (congrFun ((F4 191).trans rfl) i).trans (hS i h0 h1))) okX12_plan kw_8_1 ⟨kw_8_2, kw_8_3⟩ ⟨rfl, rfl⟩ ⟨Nat.le_of_ble_eq_true rfl, Nat.le_of_ble_eq_true rfl⟩ rfl (by omega) (by omega) lay_190 rfl rfl (Nat.le_of_ble_eq_true rfl) ⟨Nat.le_of_ble_eq_true rfl, Nat.le_of_ble_eq_true rfl⟩ rfl rfl dL_law_1846 rfl (fun z5 M6 P7 => ?_)
  obtain ⟨P7, F8⟩ := P7
  refine g_icmp_eq (n := 1852) (tgt := 1992) X dL_law_1849 (by decide) (by omega) (by omega) rfl (fun c9 => ?_) (fun c9 => by exfalso; omega)
  exact law_tail X hr hb (by omega) (by omega)
