theorem dL_law_1854 : decode code 1854 = .ok (.aload_n 1, 1) := dc_43 (by decide +kernel)
theorem dL_law_1855 : decode code 1855 = .ok (.aload_n 0, 1) := dc_42 (by decide +kernel)
theorem dL_law_1856 : decode code 1856 = .ok (.iload_n 3, 1) := dc_29 (by decide +kernel)
theorem dL_law_1857 : decode code 1857 = .ok (.iconst 1, 1) := dc_4 (by decide +kernel)
theorem dL_law_1858 : decode code 1858 = .ok (.iadd, 1) := dc_96 (by decide +kernel)
theorem dL_law_1859 : decode code 1859 = .ok (.iaload, 1) := dc_46 (by decide +kernel)
theorem dL_law_1860 : decode code 1860 = .ok (.aload_n 0, 1) := dc_42 (by decide +kernel)
theorem dL_law_1861 : decode code 1861 = .ok (.iload_n 3, 1) := dc_29 (by decide +kernel)
theorem dL_law_1862 : decode code 1862 = .ok (.iconst 2, 1) := dc_5 (by decide +kernel)
theorem dL_law_1863 : decode code 1863 = .ok (.iadd, 1) := dc_96 (by decide +kernel)
theorem dL_law_1864 : decode code 1864 = .ok (.iaload, 1) := dc_46 (by decide +kernel)
theorem dL_law_1865 : decode code 1865 = .ok (.invokevirtual 187, 3) := dc_182 0 187 (by decide +kernel)
theorem kw_5_192 : (Jvm.Cond.methodLink "ParishUnionLaw" (187 : Nat) ({ cls := "ParishUnion", name := "tried", desc := "(II)I" } : Jvm.MethodName)) ∈ gT := gT_of (tb_5 _ (List.mem_of_getElem? (i := 192) rfl)) rfl
theorem kw_5_195 : (Jvm.Cond.code ({ cls := "ParishUnion", name := "tried", desc := "(II)I" } : Jvm.MethodName) prog_1_method_42_code (6 : Nat) (Option.some Jvm.ClassFile.FieldType.int)) ∈ gT := gT_of (tb_5 _ (List.mem_of_getElem? (i := 195) rfl)) rfl
theorem okX11_tried : gQok yX11_tried cX11_tried 6 (Option.some Jvm.ClassFile.FieldType.int) 2 := ⟨kw_5_195, kw_1_1, by decide +kernel, by decide +kernel, by decide +kernel⟩
theorem kw_5_193 : (Jvm.Cond.instanceMethod ({ cls := "ParishUnion", name := "tried", desc := "(II)I" } : Jvm.MethodName)) ∈ gT := gT_of (tb_5 _ (List.mem_of_getElem? (i := 193) rfl)) rfl
theorem kw_5_194 : (Jvm.Cond.selects "ParishUnion" ({ cls := "ParishUnion", name := "tried", desc := "(II)I" } : Jvm.MethodName) ({ cls := "ParishUnion", name := "tried", desc := "(II)I" } : Jvm.MethodName)) ∈ gT := gT_of (tb_5 _ (List.mem_of_getElem? (i := 194) rfl)) rfl
theorem dL_law_1868 : decode code 1868 = .ok (.pop, 1) := dc_87 (by decide +kernel)
theorem dL_law_1869 : decode code 1869 = .ok (.aload_n 2, 1) := dc_44 (by decide +kernel)
theorem dL_law_1870 : decode code 1870 = .ok (.aload_n 0, 1) := dc_42 (by decide +kernel)
theorem dL_law_1871 : decode code 1871 = .ok (.iload_n 3, 1) := dc_29 (by decide +kernel)
theorem dL_law_1872 : decode code 1872 = .ok (.iconst 1, 1) := dc_4 (by decide +kernel)
theorem dL_law_1873 : decode code 1873 = .ok (.iadd, 1) := dc_96 (by decide +kernel)
theorem dL_law_1874 : decode code 1874 = .ok (.iaload, 1) := dc_46 (by decide +kernel)
theorem dL_law_1875 : decode code 1875 = .ok (.aload_n 0, 1) := dc_42 (by decide +kernel)
theorem dL_law_1876 : decode code 1876 = .ok (.iload_n 3, 1) := dc_29 (by decide +kernel)
theorem dL_law_1877 : decode code 1877 = .ok (.iconst 2, 1) := dc_5 (by decide +kernel)
theorem dL_law_1878 : decode code 1878 = .ok (.iadd, 1) := dc_96 (by decide +kernel)
theorem dL_law_1879 : decode code 1879 = .ok (.iaload, 1) := dc_46 (by decide +kernel)
theorem dL_law_1880 : decode code 1880 = .ok (.invokevirtual 190, 3) := dc_182 0 190 (by decide +kernel)
theorem kw_8_25 : (Jvm.Cond.methodLink "ParishUnionLaw" (190 : Nat) ({ cls := "ParishUnionModel", name := "tried", desc := "(II)I" } : Jvm.MethodName)) ∈ gT := gT_of (tb_8 _ (List.mem_of_getElem? (i := 25) rfl)) rfl
theorem kw_8_28 : (Jvm.Cond.code ({ cls := "ParishUnionModel", name := "tried", desc := "(II)I" } : Jvm.MethodName) prog_14_method_102_code (9 : Nat) (Option.some Jvm.ClassFile.FieldType.int)) ∈ gT := gT_of (tb_8 _ (List.mem_of_getElem? (i := 28) rfl)) rfl
theorem okX12_tried : gQok yX12_tried cX12_tried 9 (Option.some Jvm.ClassFile.FieldType.int) 2 := ⟨kw_8_28, kw_1_13, by decide +kernel, by decide +kernel, by decide +kernel⟩
theorem kw_8_26 : (Jvm.Cond.instanceMethod ({ cls := "ParishUnionModel", name := "tried", desc := "(II)I" } : Jvm.MethodName)) ∈ gT := gT_of (tb_8 _ (List.mem_of_getElem? (i := 26) rfl)) rfl
theorem kw_8_27 : (Jvm.Cond.selects "ParishUnionModel" ({ cls := "ParishUnionModel", name := "tried", desc := "(II)I" } : Jvm.MethodName) ({ cls := "ParishUnionModel", name := "tried", desc := "(II)I" } : Jvm.MethodName)) ∈ gT := gT_of (tb_8 _ (List.mem_of_getElem? (i := 27) rfl)) rfl
theorem dL_law_1883 : decode code 1883 = .ok (.pop, 1) := dc_87 (by decide +kernel)
theorem dL_law_1884 : decode code 1884 = .ok (.goto 108, 3) := dc_167 0 108 108 (by decide +kernel)
set_option maxRecDepth 100000 in
set_option maxHeartbeats 4000000 in
theorem law_case_40 {p : Program} {e : Env} {s : State} {m : MethodId} {below : List Frame} {meth : Method} {cd : Code} {l : Launch} {D : va_G} {cA : Nat → ClassId} {b Ln : Nat} {xs : Nat → Int32} (X : gCx p s m #[Value.ref b] meth cd s.heap.size D cA "ParishUnionLaw" code 4) (hr : meth.sig.returnType = ret) (hb : b < s.heap.size ∧ va_X b Ln xs s s.heap) (hLn : Ln ≤ 3584) {sz cs ss : Nat} {M : gM} (L : lwI sz cs ss M) (i : Int) (hi : 0 ≤ i ∧ i + 7 ≤ (Ln : Int)) (kk : ∀ (sz cs ss : Nat) (M1 : gM), lwI sz cs ss M1 → G p l e room_1 s m #[Value.ref b] below meth cd s.heap.size D cA 4 (lw_Z below #[Value.ref b] s) cs ss M1 sz 1992 [(3, gJ i), (2, gA s.heap.size 190), (1, gA s.heap.size 0), (0, .ref b)] []) : G p l e room_1 s m #[Value.ref b] below meth cd s.heap.size D cA 4 (lw_Z below #[Value.ref b] s) cs ss M sz 1854 [(3, gJ i), (2, gA s.heap.size 190), (1, gA s.heap.size 0), (0, .ref b)] [] := by
  obtain ⟨hsz, I, C, W, LA, LB, LK, LR⟩ := L
  have hN := gN_of hsz I
  obtain ⟨ac, hac, rac⟩ : ∃ v : Int, M 1 13 = v ∧ (0 ≤ v ∧ v ≤ 10) := by
    obtain ⟨v, hv, rv⟩ := gRd I (by decide) (gsz hsz (by decide)) rc_1_13.1
    exact ⟨v, hv, by omega⟩
  obtain ⟨ab, hab, rab⟩ : ∃ v : Int, M 191 4 = v ∧ (0 ≤ v ∧ v ≤ 10) := by
    obtain ⟨v, hv, rv⟩ := gRd I (by decide) (gsz hsz (by decide)) (rs_NA (k := 4) (by omega)).1
    exact ⟨v, hv, by omega⟩
  have hRm : cs + 0 ≤ room_1.cells ∧ ss + 0 ≤ room_1.slots := by
    show cs + 0 ≤ 349274 ∧ ss + 0 ≤ 8054428
    have := lwK.room LK
    omega
  obtain ⟨u1, eu1, ru1⟩ : ∃ z : Int, xs (i + 1).toNat = Int32.ofInt z ∧ (-2147483648 ≤ z ∧ z ≤ 2147483647) := ⟨_, gi_of _, gi_rg _⟩
  obtain ⟨u2, eu2, ru2⟩ : ∃ z : Int, xs (i + 2).toNat = Int32.ofInt z ∧ (-2147483648 ≤ z ∧ z ≤ 2147483647) := ⟨_, gi_of _, gi_rg _⟩
  obtain ⟨u3, eu3, ru3⟩ : ∃ z : Int, xs (i + 3).toNat = Int32.ofInt z ∧ (-2147483648 ≤ z ∧ z ≤ 2147483647) := ⟨_, gi_of _, gi_rg _⟩
  obtain ⟨u4, eu4, ru4⟩ : ∃ z : Int, xs (i + 4).toNat = Int32.ofInt z ∧ (-2147483648 ≤ z ∧ z ≤ 2147483647) := ⟨_, gi_of _, gi_rg _⟩
  obtain ⟨u5, eu5, ru5⟩ : ∃ z : Int, xs (i + 5).toNat = Int32.ofInt z ∧ (-2147483648 ≤ z ∧ z ≤ 2147483647) := ⟨_, gi_of _, gi_rg _⟩
  obtain ⟨u6, eu6, ru6⟩ : ∃ z : Int, xs (i + 6).toNat = Int32.ofInt z ∧ (-2147483648 ≤ z ∧ z ≤ 2147483647) := ⟨_, gi_of _, gi_rg _⟩
  refine g_aload_n (n := 1855) X 2 dL_law_1854 rfl rfl rfl ?_
  refine g_aload_n (n := 1856) X 3 dL_law_1855 rfl rfl rfl ?_
  refine g_iload_n (n := 1857) X 0 dL_law_1856 rfl rfl rfl ?_
  refine g_iconst (n := 1858) X dL_law_1857 rfl ?_
  refine g_iadd (n := 1859) (z := i + 1) X dL_law_1858 (by omega) rfl ?_
  refine g_scrld (n := 1860) (z := u1) X hb (by omega) (by omega) (by omega) dL_law_1859 rfl eu1 ?_
  refine g_aload_n (n := 1861) X 3 dL_law_1860 rfl rfl rfl ?_
  refine g_iload_n (n := 1862) X 0 dL_law_1861 rfl rfl rfl ?_
  refine g_iconst (n := 1863) X dL_law_1862 rfl ?_
  refine g_iadd (n := 1864) (z := i + 2) X dL_law_1863 (by omega) rfl ?_
  refine g_scrld (n := 1865) (z := u2) X hb (by omega) (by omega) (by omega) dL_law_1864 rfl eu2 ?_
  refine g_callVi (n := 1868) (As := [gJ u1, gJ u2]) (rest := []) (cs1 := cs) (ss1 := ss) X (s_X11_tried u1 (by omega) u2 (by omega) hsz I C (by have := hac; omega)) okX11_tried kw_5_192 ⟨kw_5_193, kw_5_194⟩ ⟨rfl, rfl⟩ ⟨Nat.le_of_ble_eq_true rfl, Nat.le_of_ble_eq_true rfl⟩ rfl (by decide) (gsz hsz (by decide)) lay_0 rfl rfl (Nat.le_of_ble_eq_true rfl) hRm rfl rfl dL_law_1865 rfl (fun v1 M2 P3 => ?_)
  obtain ⟨rv1, IM2, CM2, FM2, xM2⟩ := P3
  refine g_pop (n := 1869) X dL_law_1868 rfl rfl ?_
  refine g_aload_n (n := 1870) X 1 dL_law_1869 rfl rfl rfl ?_
  refine g_aload_n (n := 1871) X 3 dL_law_1870 rfl rfl rfl ?_
  refine g_iload_n (n := 1872) X 0 dL_law_1871 rfl rfl rfl ?_
  refine g_iconst (n := 1873) X dL_law_1872 rfl ?_
  refine g_iadd (n := 1874) (z := i + 1) X dL_law_1873 (by omega) rfl ?_
  refine g_scrld (n := 1875) (z := u1) X hb (by omega) (by omega) (by omega) dL_law_1874 rfl eu1 ?_
  refine g_aload_n (n := 1876) X 3 dL_law_1875 rfl rfl rfl ?_
  refine g_iload_n (n := 1877) X 0 dL_law_1876 rfl rfl rfl ?_
  refine g_iconst (n := 1878) X dL_law_1877 rfl ?_
  refine g_iadd (n := 1879) (z := i + 2) X dL_law_1878 (by omega) rfl ?_
  refine g_scrld (n := 1880) (z := u2) X hb (by omega) (by omega) (by omega) dL_law_1879 rfl eu2 ?_
  refine g_callVi (n := 1883) (As := [gJ u1, gJ u2]) (rest := []) (cs1 := cs) (ss1 := ss) X (s_X12_tried u1 (by omega) u2 (by omega) hsz IM2 CM2 (gW.fr (S := 4290902392) W ⟨sz, hsz, I⟩ (gFr.c gFr.rf FM2 rfl) rfl) (by have := ((gFr.at FM2 (rs_NA (k := 4) (by omega)).2.2 rfl).trans hab); omega)) okX12_tried kw_8_25 ⟨kw_8_26, kw_8_27⟩ ⟨rfl, rfl⟩ ⟨Nat.le_of_ble_eq_true rfl, Nat.le_of_ble_eq_true rfl⟩ rfl (by decide) (gsz hsz (by decide)) lay_190 rfl rfl (Nat.le_of_ble_eq_true rfl) hRm rfl rfl dL_law_1880 rfl (fun v4 M5 P6 => ?_)
  obtain ⟨rv4, IM5, CM5, FM5, xM5⟩ := P6
  refine g_pop (n := 1884) X dL_law_1883 rfl rfl ?_
  refine g_goto (tgt := 1992) X dL_law_1884 (by decide) ?_
  exact kk _ _ _ _ ⟨hsz, IM5, CM5, (gW.cells (gW.fr (S := 4290902392) W ⟨sz, hsz, I⟩ (gFr.c gFr.rf FM2 rfl) rfl) IM2 hsz (xM5 1 (by decide) (by decide) (by decide)) (fun k hk => xM5 k (by unfold gWu at hk; omega) (by unfold gWu at hk; omega) (by unfold gWu at hk; omega))), (by rw [((gFr.at FM5 rc_1_13.2.2 rfl).trans xM2.2)]; exact LA), (by rw [((xM5 4 (by omega) (by omega) (by omega)).trans (gFr.at FM2 (rs_NA (k := 4) (by omega)).2.2 rfl))]; exact LB), (lwK.fr LK ((gFr.c (gFr.c gFr.rf FM2 rfl) FM5 rfl) : gFr 3559082316865207056201808248 M M5) rfl), ⟨(rl_now.mv (rl_now.mv LR.1 (xM2.1).2.2.2.2.2.2.2.2.2.2.2 (gFr.at FM2 (rs_NOW (k := 0) (by omega)).2.2 rfl)) (gFr.at FM5 rc_1_15.2.2 rfl) (xM5 0 (by omega) (by omega) (by omega))), (rl_npers.mv (rl_npers.fr LR.2.1 hN FM2 rfl) (gFr.at FM5 rc_1_10.2.2 rfl) (xM5 1 (by omega) (by omega) (by omega))), (rl_sex.mv (rl_sex.mv LR.2.2.1 (gFr.at FM2 rc_1_10.2.2 rfl) (fun p h0 h1 => (xM2.1).1 p 0 h0 h1 (by omega)) (fun b h0 h1 => gFr.at FM2 (rs_SEX (k := b + 80) (by omega)).2.2 rfl)) (gFr.at FM5 rc_1_10.2.2 rfl) (fun p h0 h1 => gFr.at FM5 (rP_0 (o := 31 + p) (by have := (gN_of hsz IM2); omega)).2.2 rfl) (fun b h0 h1 => xM5 (b + 80) (by omega) (by omega) (by omega))), (rl_born.mv (rl_born.mv LR.2.2.2.1 (gFr.at FM2 rc_1_10.2.2 rfl) (fun p h0 h1 => (xM2.1).1 p 1 h0 h1 (by omega)) (fun b h0 h1 => gFr.at FM2 (rs_BORN (k := b + 96) (by omega)).2.2 rfl)) (gFr.at FM5 rc_1_10.2.2 rfl) (fun p h0 h1 => gFr.at FM5 (rP_1 (o := 31 + p) (by have := (gN_of hsz IM2); omega)).2.2 rfl) (fun b h0 h1 => xM5 (b + 96) (by omega) (by omega) (by omega))), (rl_nright.mv (rl_nright.fr LR.2.2.2.2.1 hN FM2 rfl) (gFr.at FM5 rc_1_11.2.2 rfl) (xM5 2 (by omega) (by omega) (by omega))), (rl_nent.mv (rl_nent.fr LR.2.2.2.2.2.1 hN FM2 rfl) (gFr.at FM5 rc_1_12.2.2 rfl) (xM5 3 (by omega) (by omega) (by omega))), (rl_rkind.mv (rl_rkind.fr LR.2.2.2.2.2.2.1 hN FM2 rfl) (gFr.at FM5 rc_1_11.2.2 rfl) (fun p h0 h1 => gFr.at FM5 (rR_0 (o := 47 + p) (by have := (gN_of hsz IM2); omega)).2.2 rfl) (fun b h0 h1 => xM5 (b + 256) (by omega) (by omega) (by omega))), (rl_rwho.mv (rl_rwho.fr LR.2.2.2.2.2.2.2.1 hN FM2 rfl) (gFr.at FM5 rc_1_11.2.2 rfl) (fun p h0 h1 => gFr.at FM5 (rR_1 (o := 47 + p) (by have := (gN_of hsz IM2); omega)).2.2 rfl) (fun b h0 h1 => xM5 (b + 296) (by omega) (by omega) (by omega))), (rl_rto.mv (rl_rto.fr LR.2.2.2.2.2.2.2.2.1 hN FM2 rfl) (gFr.at FM5 rc_1_11.2.2 rfl) (fun p h0 h1 => gFr.at FM5 (rR_2 (o := 47 + p) (by have := (gN_of hsz IM2); omega)).2.2 rfl) (fun b h0 h1 => xM5 (b + 336) (by omega) (by omega) (by omega))), (rl_rn.mv (rl_rn.fr LR.2.2.2.2.2.2.2.2.2.1 hN FM2 rfl) (gFr.at FM5 rc_1_11.2.2 rfl) (fun p h0 h1 => gFr.at FM5 (rR_3 (o := 47 + p) (by have := (gN_of hsz IM2); omega)).2.2 rfl) (fun b h0 h1 => xM5 (b + 376) (by omega) (by omega) (by omega))), (rl_rweek.mv (rl_rweek.fr LR.2.2.2.2.2.2.2.2.2.2.1 hN FM2 rfl) (gFr.at FM5 rc_1_11.2.2 rfl) (fun p h0 h1 => gFr.at FM5 (rR_4 (o := 47 + p) (by have := (gN_of hsz IM2); omega)).2.2 rfl) (fun b h0 h1 => xM5 (b + 416) (by omega) (by omega) (by omega))), (rl_rsure.mv (rl_rsure.fr LR.2.2.2.2.2.2.2.2.2.2.2.1 hN FM2 rfl) (gFr.at FM5 rc_1_11.2.2 rfl) (fun p h0 h1 => gFr.at FM5 (rR_5 (o := 47 + p) (by have := (gN_of hsz IM2); omega)).2.2 rfl) (fun b h0 h1 => xM5 (b + 456) (by omega) (by omega) (by omega))), (rl_proofs.mv (rl_proofs.fr LR.2.2.2.2.2.2.2.2.2.2.2.2 hN FM2 rfl) (gFr.at FM5 rc_1_11.2.2 rfl) (fun p h0 h1 => gFr.at FM5 (rR_6 (o := 47 + p) (by have := (gN_of hsz IM2); omega)).2.2 rfl) (fun p h0 h1 => gFr.at FM5 (rR_7 (o := 47 + p) (by have := (gN_of hsz IM2); omega)).2.2 rfl) (fun p h0 h1 => gFr.at FM5 (rR_8 (o := 47 + p) (by have := (gN_of hsz IM2); omega)).2.2 rfl) (xM5 3 (by omega) (by omega) (by omega)) (fun b h0 h1 => xM5 (b + 496) (by omega) (by omega) (by omega)) (fun b h0 h1 => xM5 (b + 576) (by omega) (by omega) (by omega)))⟩⟩
theorem dL_law_1887 : decode code 1887 = .ok (.aload_n 1, 1) := dc_43 (by decide +kernel)
theorem dL_law_1888 : decode code 1888 = .ok (.aload_n 0, 1) := dc_42 (by decide +kernel)
theorem dL_law_1889 : decode code 1889 = .ok (.iload_n 3, 1) := dc_29 (by decide +kernel)
theorem dL_law_1890 : decode code 1890 = .ok (.iconst 1, 1) := dc_4 (by decide +kernel)
theorem dL_law_1891 : decode code 1891 = .ok (.iadd, 1) := dc_96 (by decide +kernel)
theorem dL_law_1892 : decode code 1892 = .ok (.iaload, 1) := dc_46 (by decide +kernel)
theorem dL_law_1893 : decode code 1893 = .ok (.aload_n 0, 1) := dc_42 (by decide +kernel)
theorem dL_law_1894 : decode code 1894 = .ok (.iload_n 3, 1) := dc_29 (by decide +kernel)
theorem dL_law_1895 : decode code 1895 = .ok (.iconst 2, 1) := dc_5 (by decide +kernel)
theorem dL_law_1896 : decode code 1896 = .ok (.iadd, 1) := dc_96 (by decide +kernel)
theorem dL_law_1897 : decode code 1897 = .ok (.iaload, 1) := dc_46 (by decide +kernel)
theorem dL_law_1898 : decode code 1898 = .ok (.invokevirtual 191, 3) := dc_182 0 191 (by decide +kernel)
theorem kw_5_200 : (Jvm.Cond.methodLink "ParishUnionLaw" (191 : Nat) ({ cls := "ParishUnion", name := "told", desc := "(II)I" } : Jvm.MethodName)) ∈ gT := gT_of (tb_5 _ (List.mem_of_getElem? (i := 200) rfl)) rfl
theorem kw_5_203 : (Jvm.Cond.code ({ cls := "ParishUnion", name := "told", desc := "(II)I" } : Jvm.MethodName) prog_1_method_43_code (4 : Nat) (Option.some Jvm.ClassFile.FieldType.int)) ∈ gT := gT_of (tb_5 _ (List.mem_of_getElem? (i := 203) rfl)) rfl
theorem okX11_told : gQok yX11_told cX11_told 4 (Option.some Jvm.ClassFile.FieldType.int) 2 := ⟨kw_5_203, kw_1_1, by decide +kernel, by decide +kernel, by decide +kernel⟩
theorem kw_5_201 : (Jvm.Cond.instanceMethod ({ cls := "ParishUnion", name := "told", desc := "(II)I" } : Jvm.MethodName)) ∈ gT := gT_of (tb_5 _ (List.mem_of_getElem? (i := 201) rfl)) rfl
theorem kw_5_202 : (Jvm.Cond.selects "ParishUnion" ({ cls := "ParishUnion", name := "told", desc := "(II)I" } : Jvm.MethodName) ({ cls := "ParishUnion", name := "told", desc := "(II)I" } : Jvm.MethodName)) ∈ gT := gT_of (tb_5 _ (List.mem_of_getElem? (i := 202) rfl)) rfl
theorem dL_law_1901 : decode code 1901 = .ok (.pop, 1) := dc_87 (by decide +kernel)
theorem dL_law_1902 : decode code 1902 = .ok (.aload_n 2, 1) := dc_44 (by decide +kernel)
theorem dL_law_1903 : decode code 1903 = .ok (.aload_n 0, 1) := dc_42 (by decide +kernel)
theorem dL_law_1904 : decode code 1904 = .ok (.iload_n 3, 1) := dc_29 (by decide +kernel)
theorem dL_law_1905 : decode code 1905 = .ok (.iconst 1, 1) := dc_4 (by decide +kernel)
theorem dL_law_1906 : decode code 1906 = .ok (.iadd, 1) := dc_96 (by decide +kernel)
theorem dL_law_1907 : decode code 1907 = .ok (.iaload, 1) := dc_46 (by decide +kernel)
theorem dL_law_1908 : decode code 1908 = .ok (.aload_n 0, 1) := dc_42 (by decide +kernel)
theorem dL_law_1909 : decode code 1909 = .ok (.iload_n 3, 1) := dc_29 (by decide +kernel)
theorem dL_law_1910 : decode code 1910 = .ok (.iconst 2, 1) := dc_5 (by decide +kernel)
theorem dL_law_1911 : decode code 1911 = .ok (.iadd, 1) := dc_96 (by decide +kernel)
theorem dL_law_1912 : decode code 1912 = .ok (.iaload, 1) := dc_46 (by decide +kernel)
theorem dL_law_1913 : decode code 1913 = .ok (.invokevirtual 194, 3) := dc_182 0 194 (by decide +kernel)
theorem kw_8_29 : (Jvm.Cond.methodLink "ParishUnionLaw" (194 : Nat) ({ cls := "ParishUnionModel", name := "told", desc := "(II)I" } : Jvm.MethodName)) ∈ gT := gT_of (tb_8 _ (List.mem_of_getElem? (i := 29) rfl)) rfl
theorem kw_8_32 : (Jvm.Cond.code ({ cls := "ParishUnionModel", name := "told", desc := "(II)I" } : Jvm.MethodName) prog_14_method_103_code (4 : Nat) (Option.some Jvm.ClassFile.FieldType.int)) ∈ gT := gT_of (tb_8 _ (List.mem_of_getElem? (i := 32) rfl)) rfl
theorem okX12_told : gQok yX12_told cX12_told 4 (Option.some Jvm.ClassFile.FieldType.int) 2 := ⟨kw_8_32, kw_1_13, by decide +kernel, by decide +kernel, by decide +kernel⟩
theorem kw_8_30 : (Jvm.Cond.instanceMethod ({ cls := "ParishUnionModel", name := "told", desc := "(II)I" } : Jvm.MethodName)) ∈ gT := gT_of (tb_8 _ (List.mem_of_getElem? (i := 30) rfl)) rfl
theorem kw_8_31 : (Jvm.Cond.selects "ParishUnionModel" ({ cls := "ParishUnionModel", name := "told", desc := "(II)I" } : Jvm.MethodName) ({ cls := "ParishUnionModel", name := "told", desc := "(II)I" } : Jvm.MethodName)) ∈ gT := gT_of (tb_8 _ (List.mem_of_getElem? (i := 31) rfl)) rfl
theorem dL_law_1916 : decode code 1916 = .ok (.pop, 1) := dc_87 (by decide +kernel)
theorem dL_law_1917 : decode code 1917 = .ok (.goto 75, 3) := dc_167 0 75 75 (by decide +kernel)
set_option maxRecDepth 100000 in
set_option maxHeartbeats 4000000 in
theorem law_case_41 {p : Program} {e : Env} {s : State} {m : MethodId} {below : List Frame} {meth : Method} {cd : Code} {l : Launch} {D : va_G} {cA : Nat → ClassId} {b Ln : Nat} {xs : Nat → Int32} (X : gCx p s m #[Value.ref b] meth cd s.heap.size D cA "ParishUnionLaw" code 4) (hr : meth.sig.returnType = ret) (hb : b < s.heap.size ∧ va_X b Ln xs s s.heap) (hLn : Ln ≤ 3584) {sz cs ss : Nat} {M : gM} (L : lwI sz cs ss M) (i : Int) (hi : 0 ≤ i ∧ i + 7 ≤ (Ln : Int)) (kk : ∀ (sz cs ss : Nat) (M1 : gM), lwI sz cs ss M1 → G p l e room_1 s m #[Value.ref b] below meth cd s.heap.size D cA 4 (lw_Z below #[Value.ref b] s) cs ss M1 sz 1992 [(3, gJ i), (2, gA s.heap.size 190), (1, gA s.heap.size 0), (0, .ref b)] []) : G p l e room_1 s m #[Value.ref b] below meth cd s.heap.size D cA 4 (lw_Z below #[Value.ref b] s) cs ss M sz 1887 [(3, gJ i), (2, gA s.heap.size 190), (1, gA s.heap.size 0), (0, .ref b)] [] := by
  obtain ⟨hsz, I, C, W, LA, LB, LK, LR⟩ := L
  have hN := gN_of hsz I
  obtain ⟨ac, hac, rac⟩ : ∃ v : Int, M 1 13 = v ∧ (0 ≤ v ∧ v ≤ 10) := by
    obtain ⟨v, hv, rv⟩ := gRd I (by decide) (gsz hsz (by decide)) rc_1_13.1
    exact ⟨v, hv, by omega⟩
  obtain ⟨ab, hab, rab⟩ : ∃ v : Int, M 191 4 = v ∧ (0 ≤ v ∧ v ≤ 10) := by
    obtain ⟨v, hv, rv⟩ := gRd I (by decide) (gsz hsz (by decide)) (rs_NA (k := 4) (by omega)).1
    exact ⟨v, hv, by omega⟩
  have hRm : cs + 0 ≤ room_1.cells ∧ ss + 0 ≤ room_1.slots := by
    show cs + 0 ≤ 349274 ∧ ss + 0 ≤ 8054428
    have := lwK.room LK
    omega
  obtain ⟨u1, eu1, ru1⟩ : ∃ z : Int, xs (i + 1).toNat = Int32.ofInt z ∧ (-2147483648 ≤ z ∧ z ≤ 2147483647) := ⟨_, gi_of _, gi_rg _⟩
  obtain ⟨u2, eu2, ru2⟩ : ∃ z : Int, xs (i + 2).toNat = Int32.ofInt z ∧ (-2147483648 ≤ z ∧ z ≤ 2147483647) := ⟨_, gi_of _, gi_rg _⟩
  obtain ⟨u3, eu3, ru3⟩ : ∃ z : Int, xs (i + 3).toNat = Int32.ofInt z ∧ (-2147483648 ≤ z ∧ z ≤ 2147483647) := ⟨_, gi_of _, gi_rg _⟩
  obtain ⟨u4, eu4, ru4⟩ : ∃ z : Int, xs (i + 4).toNat = Int32.ofInt z ∧ (-2147483648 ≤ z ∧ z ≤ 2147483647) := ⟨_, gi_of _, gi_rg _⟩
  obtain ⟨u5, eu5, ru5⟩ : ∃ z : Int, xs (i + 5).toNat = Int32.ofInt z ∧ (-2147483648 ≤ z ∧ z ≤ 2147483647) := ⟨_, gi_of _, gi_rg _⟩
  obtain ⟨u6, eu6, ru6⟩ : ∃ z : Int, xs (i + 6).toNat = Int32.ofInt z ∧ (-2147483648 ≤ z ∧ z ≤ 2147483647) := ⟨_, gi_of _, gi_rg _⟩
  refine g_aload_n (n := 1888) X 2 dL_law_1887 rfl rfl rfl ?_
  refine g_aload_n (n := 1889) X 3 dL_law_1888 rfl rfl rfl ?_
  refine g_iload_n (n := 1890) X 0 dL_law_1889 rfl rfl rfl ?_
  refine g_iconst (n := 1891) X dL_law_1890 rfl ?_
  refine g_iadd (n := 1892) (z := i + 1) X dL_law_1891 (by omega) rfl ?_
  refine g_scrld (n := 1893) (z := u1) X hb (by omega) (by omega) (by omega) dL_law_1892 rfl eu1 ?_
  refine g_aload_n (n := 1894) X 3 dL_law_1893 rfl rfl rfl ?_
  refine g_iload_n (n := 1895) X 0 dL_law_1894 rfl rfl rfl ?_
  refine g_iconst (n := 1896) X dL_law_1895 rfl ?_
  refine g_iadd (n := 1897) (z := i + 2) X dL_law_1896 (by omega) rfl ?_
  refine g_scrld (n := 1898) (z := u2) X hb (by omega) (by omega) (by omega) dL_law_1897 rfl eu2 ?_
  refine g_callVi (n := 1901) (As := [gJ u1, gJ u2]) (rest := []) (cs1 := cs) (ss1 := ss) X (s_X11_told u1 (by omega) u2 (by omega) hsz I C ) okX11_told kw_5_200 ⟨kw_5_201, kw_5_202⟩ ⟨rfl, rfl⟩ ⟨Nat.le_of_ble_eq_true rfl, Nat.le_of_ble_eq_true rfl⟩ rfl (by decide) (gsz hsz (by decide)) lay_0 rfl rfl (Nat.le_of_ble_eq_true rfl) hRm rfl rfl dL_law_1898 rfl (fun v1 M2 P3 => ?_)
  obtain ⟨rv1, IM2, CM2, FM2, xM2⟩ := P3
  refine g_pop (n := 1902) X dL_law_1901 rfl rfl ?_
  refine g_aload_n (n := 1903) X 1 dL_law_1902 rfl rfl rfl ?_
  refine g_aload_n (n := 1904) X 3 dL_law_1903 rfl rfl rfl ?_
  refine g_iload_n (n := 1905) X 0 dL_law_1904 rfl rfl rfl ?_
  refine g_iconst (n := 1906) X dL_law_1905 rfl ?_
  refine g_iadd (n := 1907) (z := i + 1) X dL_law_1906 (by omega) rfl ?_
  refine g_scrld (n := 1908) (z := u1) X hb (by omega) (by omega) (by omega) dL_law_1907 rfl eu1 ?_
  refine g_aload_n (n := 1909) X 3 dL_law_1908 rfl rfl rfl ?_
  refine g_iload_n (n := 1910) X 0 dL_law_1909 rfl rfl rfl ?_
  refine g_iconst (n := 1911) X dL_law_1910 rfl ?_
  refine g_iadd (n := 1912) (z := i + 2) X dL_law_1911 (by omega) rfl ?_
  refine g_scrld (n := 1913) (z := u2) X hb (by omega) (by omega) (by omega) dL_law_1912 rfl eu2 ?_
  refine g_callVi (n := 1916) (As := [gJ u1, gJ u2]) (rest := []) (cs1 := cs) (ss1 := ss) X (s_X12_told u1 (by omega) u2 (by omega) hsz IM2 CM2 ) okX12_told kw_8_29 ⟨kw_8_30, kw_8_31⟩ ⟨rfl, rfl⟩ ⟨Nat.le_of_ble_eq_true rfl, Nat.le_of_ble_eq_true rfl⟩ rfl (by decide) (gsz hsz (by decide)) lay_190 rfl rfl (Nat.le_of_ble_eq_true rfl) hRm rfl rfl dL_law_1913 rfl (fun v4 M5 P6 => ?_)
  obtain ⟨rv4, IM5, CM5, FM5, xM5⟩ := P6
  refine g_pop (n := 1917) X dL_law_1916 rfl rfl ?_
  refine g_goto (tgt := 1992) X dL_law_1917 (by decide) ?_
  exact kk _ _ _ _ ⟨hsz, IM5, CM5, (gW.fr (S := 288230376151711776) W ⟨sz, hsz, I⟩ (gFr.c (gFr.c gFr.rf FM2 rfl) FM5 rfl) rfl), (by rw [((gFr.at FM5 rc_1_13.2.2 rfl).trans (gFr.at FM2 rc_1_13.2.2 rfl))]; exact LA), (by rw [((gFr.at FM5 (rs_NA (k := 4) (by omega)).2.2 rfl).trans (gFr.at FM2 (rs_NA (k := 4) (by omega)).2.2 rfl))]; exact LB), (lwK.fr LK ((gFr.c (gFr.c gFr.rf FM2 rfl) FM5 rfl) : gFr 288230376151711776 M M5) rfl), ⟨(rl_now.fr (rl_now.fr LR.1 hN FM2 rfl) (gN_of hsz IM2) FM5 rfl), (rl_npers.fr (rl_npers.fr LR.2.1 hN FM2 rfl) (gN_of hsz IM2) FM5 rfl), (rl_sex.fr (rl_sex.fr LR.2.2.1 hN FM2 rfl) (gN_of hsz IM2) FM5 rfl), (rl_born.fr (rl_born.fr LR.2.2.2.1 hN FM2 rfl) (gN_of hsz IM2) FM5 rfl), (rl_nright.fr (rl_nright.fr LR.2.2.2.2.1 hN FM2 rfl) (gN_of hsz IM2) FM5 rfl), (rl_nent.fr (rl_nent.fr LR.2.2.2.2.2.1 hN FM2 rfl) (gN_of hsz IM2) FM5 rfl), (rl_rkind.fr (rl_rkind.fr LR.2.2.2.2.2.2.1 hN FM2 rfl) (gN_of hsz IM2) FM5 rfl), (rl_rwho.fr (rl_rwho.fr LR.2.2.2.2.2.2.2.1 hN FM2 rfl) (gN_of hsz IM2) FM5 rfl), (rl_rto.fr (rl_rto.fr LR.2.2.2.2.2.2.2.2.1 hN FM2 rfl) (gN_of hsz IM2) FM5 rfl), (rl_rn.fr (rl_rn.fr LR.2.2.2.2.2.2.2.2.2.1 hN FM2 rfl) (gN_of hsz IM2) FM5 rfl), (rl_rweek.fr (rl_rweek.fr LR.2.2.2.2.2.2.2.2.2.2.1 hN FM2 rfl) (gN_of hsz IM2) FM5 rfl), (rl_rsure.fr (rl_rsure.fr LR.2.2.2.2.2.2.2.2.2.2.2.1 hN FM2 rfl) (gN_of hsz IM2) FM5 rfl), (rl_proofs.fr (rl_proofs.fr LR.2.2.2.2.2.2.2.2.2.2.2.2 hN FM2 rfl) (gN_of hsz IM2) FM5 rfl)⟩⟩
theorem dL_law_1920 : decode code 1920 = .ok (.aload_n 1, 1) := dc_43 (by decide +kernel)
theorem dL_law_1921 : decode code 1921 = .ok (.aload_n 0, 1) := dc_42 (by decide +kernel)
theorem dL_law_1922 : decode code 1922 = .ok (.iload_n 3, 1) := dc_29 (by decide +kernel)
theorem dL_law_1923 : decode code 1923 = .ok (.iconst 1, 1) := dc_4 (by decide +kernel)
theorem dL_law_1924 : decode code 1924 = .ok (.iadd, 1) := dc_96 (by decide +kernel)
theorem dL_law_1925 : decode code 1925 = .ok (.iaload, 1) := dc_46 (by decide +kernel)
theorem dL_law_1926 : decode code 1926 = .ok (.invokevirtual 195, 3) := dc_182 0 195 (by decide +kernel)
theorem kw_5_204 : (Jvm.Cond.methodLink "ParishUnionLaw" (195 : Nat) ({ cls := "ParishUnion", name := "check", desc := "(I)I" } : Jvm.MethodName)) ∈ gT := gT_of (tb_5 _ (List.mem_of_getElem? (i := 204) rfl)) rfl
theorem kw_5_207 : (Jvm.Cond.code ({ cls := "ParishUnion", name := "check", desc := "(I)I" } : Jvm.MethodName) prog_1_method_44_code (3 : Nat) (Option.some Jvm.ClassFile.FieldType.int)) ∈ gT := gT_of (tb_5 _ (List.mem_of_getElem? (i := 207) rfl)) rfl
theorem okX11_check : gQok yX11_check cX11_check 3 (Option.some Jvm.ClassFile.FieldType.int) 1 := ⟨kw_5_207, kw_1_1, by decide +kernel, by decide +kernel, by decide +kernel⟩
theorem kw_5_205 : (Jvm.Cond.instanceMethod ({ cls := "ParishUnion", name := "check", desc := "(I)I" } : Jvm.MethodName)) ∈ gT := gT_of (tb_5 _ (List.mem_of_getElem? (i := 205) rfl)) rfl
theorem kw_5_206 : (Jvm.Cond.selects "ParishUnion" ({ cls := "ParishUnion", name := "check", desc := "(I)I" } : Jvm.MethodName) ({ cls := "ParishUnion", name := "check", desc := "(I)I" } : Jvm.MethodName)) ∈ gT := gT_of (tb_5 _ (List.mem_of_getElem? (i := 206) rfl)) rfl
theorem dL_law_1929 : decode code 1929 = .ok (.pop, 1) := dc_87 (by decide +kernel)
theorem dL_law_1930 : decode code 1930 = .ok (.aload_n 2, 1) := dc_44 (by decide +kernel)
theorem dL_law_1931 : decode code 1931 = .ok (.aload_n 0, 1) := dc_42 (by decide +kernel)
theorem dL_law_1932 : decode code 1932 = .ok (.iload_n 3, 1) := dc_29 (by decide +kernel)
theorem dL_law_1933 : decode code 1933 = .ok (.iconst 1, 1) := dc_4 (by decide +kernel)
theorem dL_law_1934 : decode code 1934 = .ok (.iadd, 1) := dc_96 (by decide +kernel)
theorem dL_law_1935 : decode code 1935 = .ok (.iaload, 1) := dc_46 (by decide +kernel)
theorem dL_law_1936 : decode code 1936 = .ok (.invokevirtual 198, 3) := dc_182 0 198 (by decide +kernel)
theorem kw_8_33 : (Jvm.Cond.methodLink "ParishUnionLaw" (198 : Nat) ({ cls := "ParishUnionModel", name := "check", desc := "(I)I" } : Jvm.MethodName)) ∈ gT := gT_of (tb_8 _ (List.mem_of_getElem? (i := 33) rfl)) rfl
theorem kw_8_36 : (Jvm.Cond.code ({ cls := "ParishUnionModel", name := "check", desc := "(I)I" } : Jvm.MethodName) prog_14_method_104_code (3 : Nat) (Option.some Jvm.ClassFile.FieldType.int)) ∈ gT := gT_of (tb_8 _ (List.mem_of_getElem? (i := 36) rfl)) rfl
theorem okX12_check : gQok yX12_check cX12_check 3 (Option.some Jvm.ClassFile.FieldType.int) 1 := ⟨kw_8_36, kw_1_13, by decide +kernel, by decide +kernel, by decide +kernel⟩
theorem kw_8_34 : (Jvm.Cond.instanceMethod ({ cls := "ParishUnionModel", name := "check", desc := "(I)I" } : Jvm.MethodName)) ∈ gT := gT_of (tb_8 _ (List.mem_of_getElem? (i := 34) rfl)) rfl
theorem kw_8_35 : (Jvm.Cond.selects "ParishUnionModel" ({ cls := "ParishUnionModel", name := "check", desc := "(I)I" } : Jvm.MethodName) ({ cls := "ParishUnionModel", name := "check", desc := "(I)I" } : Jvm.MethodName)) ∈ gT := gT_of (tb_8 _ (List.mem_of_getElem? (i := 35) rfl)) rfl
theorem dL_law_1939 : decode code 1939 = .ok (.pop, 1) := dc_87 (by decide +kernel)
theorem dL_law_1940 : decode code 1940 = .ok (.goto 52, 3) := dc_167 0 52 52 (by decide +kernel)
set_option maxRecDepth 100000 in
set_option maxHeartbeats 4000000 in
theorem law_case_42 {p : Program} {e : Env} {s : State} {m : MethodId} {below : List Frame} {meth : Method} {cd : Code} {l : Launch} {D : va_G} {cA : Nat → ClassId} {b Ln : Nat} {xs : Nat → Int32} (X : gCx p s m #[Value.ref b] meth cd s.heap.size D cA "ParishUnionLaw" code 4) (hr : meth.sig.returnType = ret) (hb : b < s.heap.size ∧ va_X b Ln xs s s.heap) (hLn : Ln ≤ 3584) {sz cs ss : Nat} {M : gM} (L : lwI sz cs ss M) (i : Int) (hi : 0 ≤ i ∧ i + 7 ≤ (Ln : Int)) (kk : ∀ (sz cs ss : Nat) (M1 : gM), lwI sz cs ss M1 → G p l e room_1 s m #[Value.ref b] below meth cd s.heap.size D cA 4 (lw_Z below #[Value.ref b] s) cs ss M1 sz 1992 [(3, gJ i), (2, gA s.heap.size 190), (1, gA s.heap.size 0), (0, .ref b)] []) : G p l e room_1 s m #[Value.ref b] below meth cd s.heap.size D cA 4 (lw_Z below #[Value.ref b] s) cs ss M sz 1920 [(3, gJ i), (2, gA s.heap.size 190), (1, gA s.heap.size 0), (0, .ref b)] [] := by
  obtain ⟨hsz, I, C, W, LA, LB, LK, LR⟩ := L
  have hN := gN_of hsz I
  obtain ⟨ac, hac, rac⟩ : ∃ v : Int, M 1 13 = v ∧ (0 ≤ v ∧ v ≤ 10) := by
    obtain ⟨v, hv, rv⟩ := gRd I (by decide) (gsz hsz (by decide)) rc_1_13.1
    exact ⟨v, hv, by omega⟩
  obtain ⟨ab, hab, rab⟩ : ∃ v : Int, M 191 4 = v ∧ (0 ≤ v ∧ v ≤ 10) := by
    obtain ⟨v, hv, rv⟩ := gRd I (by decide) (gsz hsz (by decide)) (rs_NA (k := 4) (by omega)).1
    exact ⟨v, hv, by omega⟩
  have hRm : cs + 0 ≤ room_1.cells ∧ ss + 0 ≤ room_1.slots := by
    show cs + 0 ≤ 349274 ∧ ss + 0 ≤ 8054428
    have := lwK.room LK
    omega
  obtain ⟨u1, eu1, ru1⟩ : ∃ z : Int, xs (i + 1).toNat = Int32.ofInt z ∧ (-2147483648 ≤ z ∧ z ≤ 2147483647) := ⟨_, gi_of _, gi_rg _⟩
  obtain ⟨u2, eu2, ru2⟩ : ∃ z : Int, xs (i + 2).toNat = Int32.ofInt z ∧ (-2147483648 ≤ z ∧ z ≤ 2147483647) := ⟨_, gi_of _, gi_rg _⟩
  obtain ⟨u3, eu3, ru3⟩ : ∃ z : Int, xs (i + 3).toNat = Int32.ofInt z ∧ (-2147483648 ≤ z ∧ z ≤ 2147483647) := ⟨_, gi_of _, gi_rg _⟩
  obtain ⟨u4, eu4, ru4⟩ : ∃ z : Int, xs (i + 4).toNat = Int32.ofInt z ∧ (-2147483648 ≤ z ∧ z ≤ 2147483647) := ⟨_, gi_of _, gi_rg _⟩
  obtain ⟨u5, eu5, ru5⟩ : ∃ z : Int, xs (i + 5).toNat = Int32.ofInt z ∧ (-2147483648 ≤ z ∧ z ≤ 2147483647) := ⟨_, gi_of _, gi_rg _⟩
  obtain ⟨u6, eu6, ru6⟩ : ∃ z : Int, xs (i + 6).toNat = Int32.ofInt z ∧ (-2147483648 ≤ z ∧ z ≤ 2147483647) := ⟨_, gi_of _, gi_rg _⟩
  refine g_aload_n (n := 1921) X 2 dL_law_1920 rfl rfl rfl ?_
  refine g_aload_n (n := 1922) X 3 dL_law_1921 rfl rfl rfl ?_
  refine g_iload_n (n := 1923) X 0 dL_law_1922 rfl rfl rfl ?_
  refine g_iconst (n := 1924) X dL_law_1923 rfl ?_
  refine g_iadd (n := 1925) (z := i + 1) X dL_law_1924 (by omega) rfl ?_
  refine g_scrld (n := 1926) (z := u1) X hb (by omega) (by omega) (by omega) dL_law_1925 rfl eu1 ?_
  refine g_callVi (n := 1929) (As := [gJ u1]) (rest := []) (cs1 := cs) (ss1 := ss) X (s_X11_check u1 (by omega) hsz I C ) okX11_check kw_5_204 ⟨kw_5_205, kw_5_206⟩ ⟨rfl, rfl⟩ ⟨Nat.le_of_ble_eq_true rfl, Nat.le_of_ble_eq_true rfl⟩ rfl (by decide) (gsz hsz (by decide)) lay_0 rfl rfl (Nat.le_of_ble_eq_true rfl) hRm rfl rfl dL_law_1926 rfl (fun v1 M2 P3 => ?_)
  obtain ⟨rfl, rv1⟩ := P3
  refine g_pop (n := 1930) X dL_law_1929 rfl rfl ?_
  refine g_aload_n (n := 1931) X 1 dL_law_1930 rfl rfl rfl ?_
  refine g_aload_n (n := 1932) X 3 dL_law_1931 rfl rfl rfl ?_
  refine g_iload_n (n := 1933) X 0 dL_law_1932 rfl rfl rfl ?_
  refine g_iconst (n := 1934) X dL_law_1933 rfl ?_
  refine g_iadd (n := 1935) (z := i + 1) X dL_law_1934 (by omega) rfl ?_
  refine g_scrld (n := 1936) (z := u1) X hb (by omega) (by omega) (by omega) dL_law_1935 rfl eu1 ?_
  refine g_callVi (n := 1939) (As := [gJ u1]) (rest := []) (cs1 := cs) (ss1 := ss) X (s_X12_check u1 (by omega) hsz I C ) okX12_check kw_8_33 ⟨kw_8_34, kw_8_35⟩ ⟨rfl, rfl⟩ ⟨Nat.le_of_ble_eq_true rfl, Nat.le_of_ble_eq_true rfl⟩ rfl (by decide) (gsz hsz (by decide)) lay_190 rfl rfl (Nat.le_of_ble_eq_true rfl) hRm rfl rfl dL_law_1936 rfl (fun v4 M5 P6 => ?_)
  obtain ⟨rfl, rv4⟩ := P6
  refine g_pop (n := 1940) X dL_law_1939 rfl rfl ?_
  refine g_goto (tgt := 1992) X dL_law_1940 (by decide) ?_
  exact kk _ _ _ _ ⟨hsz, I, C, W, LA, LB, (lwK.fr LK (gFr.rf : gFr 0 M M) rfl), ⟨LR.1, LR.2.1, LR.2.2.1, LR.2.2.2.1, LR.2.2.2.2.1, LR.2.2.2.2.2.1, LR.2.2.2.2.2.2.1, LR.2.2.2.2.2.2.2.1, LR.2.2.2.2.2.2.2.2.1, LR.2.2.2.2.2.2.2.2.2.1, LR.2.2.2.2.2.2.2.2.2.2.1, LR.2.2.2.2.2.2.2.2.2.2.2.1, LR.2.2.2.2.2.2.2.2.2.2.2.2⟩⟩
theorem dL_law_1943 : decode code 1943 = .ok (.aload_n 1, 1) := dc_43 (by decide +kernel)
theorem dL_law_1944 : decode code 1944 = .ok (.invokevirtual 199, 3) := dc_182 0 199 (by decide +kernel)
theorem kw_5_208 : (Jvm.Cond.methodLink "ParishUnionLaw" (199 : Nat) ({ cls := "ParishUnion", name := "image", desc := "()I" } : Jvm.MethodName)) ∈ gT := gT_of (tb_5 _ (List.mem_of_getElem? (i := 208) rfl)) rfl
theorem kw_5_211 : (Jvm.Cond.code ({ cls := "ParishUnion", name := "image", desc := "()I" } : Jvm.MethodName) prog_1_method_45_code (1 : Nat) (Option.some Jvm.ClassFile.FieldType.int)) ∈ gT := gT_of (tb_5 _ (List.mem_of_getElem? (i := 211) rfl)) rfl
theorem okX11_image : gQok yX11_image cX11_image 1 (Option.some Jvm.ClassFile.FieldType.int) 0 := ⟨kw_5_211, kw_1_1, by decide +kernel, by decide +kernel, by decide +kernel⟩
theorem kw_5_209 : (Jvm.Cond.instanceMethod ({ cls := "ParishUnion", name := "image", desc := "()I" } : Jvm.MethodName)) ∈ gT := gT_of (tb_5 _ (List.mem_of_getElem? (i := 209) rfl)) rfl
theorem kw_5_210 : (Jvm.Cond.selects "ParishUnion" ({ cls := "ParishUnion", name := "image", desc := "()I" } : Jvm.MethodName) ({ cls := "ParishUnion", name := "image", desc := "()I" } : Jvm.MethodName)) ∈ gT := gT_of (tb_5 _ (List.mem_of_getElem? (i := 210) rfl)) rfl
theorem dL_law_1947 : decode code 1947 = .ok (.pop, 1) := dc_87 (by decide +kernel)
theorem dL_law_1948 : decode code 1948 = .ok (.aload_n 2, 1) := dc_44 (by decide +kernel)
theorem dL_law_1949 : decode code 1949 = .ok (.invokevirtual 202, 3) := dc_182 0 202 (by decide +kernel)
theorem kw_8_37 : (Jvm.Cond.methodLink "ParishUnionLaw" (202 : Nat) ({ cls := "ParishUnionModel", name := "image", desc := "()I" } : Jvm.MethodName)) ∈ gT := gT_of (tb_8 _ (List.mem_of_getElem? (i := 37) rfl)) rfl
theorem kw_8_40 : (Jvm.Cond.code ({ cls := "ParishUnionModel", name := "image", desc := "()I" } : Jvm.MethodName) prog_14_method_105_code (1 : Nat) (Option.some Jvm.ClassFile.FieldType.int)) ∈ gT := gT_of (tb_8 _ (List.mem_of_getElem? (i := 40) rfl)) rfl
theorem okX12_image : gQok yX12_image cX12_image 1 (Option.some Jvm.ClassFile.FieldType.int) 0 := ⟨kw_8_40, kw_1_13, by decide +kernel, by decide +kernel, by decide +kernel⟩
theorem kw_8_38 : (Jvm.Cond.instanceMethod ({ cls := "ParishUnionModel", name := "image", desc := "()I" } : Jvm.MethodName)) ∈ gT := gT_of (tb_8 _ (List.mem_of_getElem? (i := 38) rfl)) rfl
theorem kw_8_39 : (Jvm.Cond.selects "ParishUnionModel" ({ cls := "ParishUnionModel", name := "image", desc := "()I" } : Jvm.MethodName) ({ cls := "ParishUnionModel", name := "image", desc := "()I" } : Jvm.MethodName)) ∈ gT := gT_of (tb_8 _ (List.mem_of_getElem? (i := 39) rfl)) rfl
theorem dL_law_1952 : decode code 1952 = .ok (.pop, 1) := dc_87 (by decide +kernel)
theorem dL_law_1953 : decode code 1953 = .ok (.goto 39, 3) := dc_167 0 39 39 (by decide +kernel)
set_option maxRecDepth 100000 in
set_option maxHeartbeats 4000000 in
theorem law_case_43_0 {p : Program} {e : Env} {s : State} {m : MethodId} {below : List Frame} {meth : Method} {cd : Code} {l : Launch} {D : va_G} {cA : Nat → ClassId} {b Ln : Nat} {xs : Nat → Int32} (X : gCx p s m #[Value.ref b] meth cd s.heap.size D cA "ParishUnionLaw" code 4) (hr : meth.sig.returnType = ret) (hb : b < s.heap.size ∧ va_X b Ln xs s s.heap) (hLn : Ln ≤ 3584) {M : gM} (I : gI 206 M) (C : gC 206 M) (W : gW 191 M) (LA : M 1 13 ≤ 10) (LB : M 191 4 ≤ 10) (LR : lwRel M) (hkept : M 0 9 = 0) (hm4 : M 190 4 = 0) (hfree : gZ 206 M) (i : Int) (hi : 0 ≤ i ∧ i + 7 ≤ (Ln : Int)) (kk : ∀ (zz cs ss : Nat) (M1 : gM), lwI zz cs ss M1 → G p l e room_1 s m #[Value.ref b] below meth cd s.heap.size D cA 4 (lw_Z below #[Value.ref b] s) cs ss M1 zz 1992 [(3, gJ i), (2, gA s.heap.size 190), (1, gA s.heap.size 0), (0, .ref b)] []) : G p l e room_1 s m #[Value.ref b] below meth cd s.heap.size D cA 4 (lw_Z below #[Value.ref b] s) 206 87467 M 206 1943 [(3, gJ i), (2, gA s.heap.size 190), (1, gA s.heap.size 0), (0, .ref b)] [] := by
  have hsz : 206 ≤ 206 := by decide
  have hsz8 : 358 = 358 := rfl
  have hN := gN_of hsz I
  have hRm : 206 + 0 ≤ room_1.cells ∧ 87467 + 0 ≤ room_1.slots := by show 206 + 0 ≤ 349274 ∧ 87467 + 0 ≤ 8054428; omega
  have hRi : 206 + 152 ≤ room_1.cells ∧ 87467 + 10507 ≤ room_1.slots := by show 206 + 152 ≤ 349274 ∧ 87467 + 10507 ≤ 8054428; omega
  obtain ⟨ac, hac, rac⟩ : ∃ v : Int, M 1 13 = v ∧ (0 ≤ v ∧ v ≤ 10) := by
    obtain ⟨v, hv, rv⟩ := gRd I (by decide) (gsz hsz (by decide)) rc_1_13.1
    exact ⟨v, hv, by omega⟩
  obtain ⟨ab, hab, rab⟩ : ∃ v : Int, M 191 4 = v ∧ (0 ≤ v ∧ v ≤ 10) := by
    obtain ⟨v, hv, rv⟩ := gRd I (by decide) (gsz hsz (by decide)) (rs_NA (k := 4) (by omega)).1
    exact ⟨v, hv, by omega⟩
  refine g_aload_n (n := 1944) X 2 dL_law_1943 rfl rfl rfl ?_
  refine g_callVi (n := 1947) (As := []) (rest := []) (cs1 := 358) (ss1 := 97974) X (s_X11_image0 I C hkept hfree) okX11_image kw_5_208 ⟨kw_5_209, kw_5_210⟩ ⟨rfl, rfl⟩ ⟨Nat.le_of_ble_eq_true rfl, Nat.le_of_ble_eq_true rfl⟩ rfl (by decide) (gsz hsz (by decide)) lay_0 rfl rfl (Nat.le_of_ble_eq_true rfl) hRi rfl rfl dL_law_1944 rfl (fun v1 M2 P3 => ?_)
  obtain ⟨rv1, IM2, CM2, FM2, kpM2, xM2⟩ := P3
  have hsz : 206 ≤ 358 := by decide
  have hRn : 358 + 0 ≤ room_1.cells ∧ 97974 + 0 ≤ room_1.slots := by show 358 + 0 ≤ 349274 ∧ 97974 + 0 ≤ 8054428; omega
  refine g_pop (n := 1948) X dL_law_1947 rfl rfl ?_
  refine g_aload_n (n := 1949) X 1 dL_law_1948 rfl rfl rfl ?_
  refine g_callVi (n := 1952) (As := []) (rest := []) (cs1 := 358) (ss1 := 97974) X (s_X12_image  hsz IM2 CM2 (gW.fr (S := 154704725978809594380550144) W ⟨206, Nat.le_refl _, I⟩ (gFr.c gFr.rf FM2 rfl) rfl)) okX12_image kw_8_37 ⟨kw_8_38, kw_8_39⟩ ⟨rfl, rfl⟩ ⟨Nat.le_of_ble_eq_true rfl, Nat.le_of_ble_eq_true rfl⟩ rfl (by decide) (gsz hsz (by decide)) lay_190 rfl rfl (Nat.le_of_ble_eq_true rfl) hRn rfl rfl dL_law_1949 rfl (fun v4 M5 P6 => ?_)
  obtain ⟨rv4, IM5, CM5, FM5, xM5⟩ := P6
  refine g_pop (n := 1953) X dL_law_1952 rfl rfl ?_
  refine g_goto (tgt := 1992) X dL_law_1953 (by decide) ?_
  have hNs := hN
  exact kk _ _ _ _ ⟨hsz, IM5, CM5, (gW.fr (S := 154714189158519407380529152) W ⟨206, Nat.le_refl _, I⟩ (gFr.c (gFr.c gFr.rf FM2 rfl) FM5 rfl) rfl), (by rw [((gFr.at FM5 rc_1_13.2.2 rfl).trans (gFr.at FM2 rc_1_13.2.2 rfl))]; exact LA), (by rw [((gFr.at FM5 (rs_NA (k := 4) (by omega)).2.2 rfl).trans (gFr.at FM2 (rs_NA (k := 4) (by omega)).2.2 rfl))]; exact LB), Or.inr ⟨rfl, rfl, rfl, (gFr.at FM5 rc_0_9.2.2 rfl).trans kpM2, xM5.2.2.2, (by rw [gFr.at FM5 rc_206_13.2.2 rfl, xM2.2.2.2.2.2.2.2.2.1]; exact LA), (by rw [xM5.2.1 4 (by decide) (by decide), gFr.at FM2 (rs_NA (k := 4) (by omega)).2.2 rfl]; exact LB), xM5.1, ⟨(rl_now.mv LR.1 ((gFr.at FM5 rc_206_15.2.2 rfl).trans xM2.2.2.2.2.2.2.2.2.2.2.1) ((xM5.2.1 0 (by omega) (by omega)).trans (gFr.at FM2 (rs_NOW (k := 0) (by omega)).2.2 rfl))), (rl_npers.mv LR.2.1 ((gFr.at FM5 rc_206_10.2.2 rfl).trans xM2.2.2.2.2.2.1) ((xM5.2.1 1 (by omega) (by omega)).trans (gFr.at FM2 (rs_PERS (k := 1) (by omega)).2.2 rfl))), (rl_sex.mv LR.2.2.1 ((gFr.at FM5 rc_206_10.2.2 rfl).trans xM2.2.2.2.2.2.1) (fun p h0 h1 => (have hq := hNs.1; gFr.free FM5 rfl (by omega) 0).trans (xM2.2.2.2.1 p 0 h0 h1 (Or.inl (by omega)))) (fun b h0 h1 => (xM5.2.1 (b + 80) (by omega) (by omega)).trans (gFr.at FM2 (rs_SEX (k := b + 80) (by omega)).2.2 rfl))), (rl_born.mv LR.2.2.2.1 ((gFr.at FM5 rc_206_10.2.2 rfl).trans xM2.2.2.2.2.2.1) (fun p h0 h1 => (have hq := hNs.1; gFr.free FM5 rfl (by omega) 1).trans (xM2.2.2.2.1 p 1 h0 h1 (Or.inl (by omega)))) (fun b h0 h1 => (xM5.2.1 (b + 96) (by omega) (by omega)).trans (gFr.at FM2 (rs_BORN (k := b + 96) (by omega)).2.2 rfl))), (rl_nright.mv LR.2.2.2.2.1 ((gFr.at FM5 rc_206_11.2.2 rfl).trans xM2.2.2.2.2.2.2.1) ((xM5.2.1 2 (by omega) (by omega)).trans (gFr.at FM2 (rs_NR (k := 2) (by omega)).2.2 rfl))), (rl_nent.mv LR.2.2.2.2.2.1 ((gFr.at FM5 rc_206_12.2.2 rfl).trans xM2.2.2.2.2.2.2.2.1) ((xM5.2.1 3 (by omega) (by omega)).trans (gFr.at FM2 (rs_NE (k := 3) (by omega)).2.2 rfl))), (rl_rkind.mv LR.2.2.2.2.2.2.1 ((gFr.at FM5 rc_206_11.2.2 rfl).trans xM2.2.2.2.2.2.2.1) (fun p h0 h1 => (have hq := hNs.2; gFr.free FM5 rfl (by omega) 0).trans (xM2.2.2.2.2.1 p 0 h0 h1 (by omega))) (fun b h0 h1 => (xM5.2.1 (b + 256) (by omega) (by omega)).trans (gFr.at FM2 (rs_RKIND (k := b + 256) (by omega)).2.2 rfl))), (rl_rwho.mv LR.2.2.2.2.2.2.2.1 ((gFr.at FM5 rc_206_11.2.2 rfl).trans xM2.2.2.2.2.2.2.1) (fun p h0 h1 => (have hq := hNs.2; gFr.free FM5 rfl (by omega) 1).trans (xM2.2.2.2.2.1 p 1 h0 h1 (by omega))) (fun b h0 h1 => (xM5.2.1 (b + 296) (by omega) (by omega)).trans (gFr.at FM2 (rs_RWHO (k := b + 296) (by omega)).2.2 rfl))), (rl_rto.mv LR.2.2.2.2.2.2.2.2.1 ((gFr.at FM5 rc_206_11.2.2 rfl).trans xM2.2.2.2.2.2.2.1) (fun p h0 h1 => (have hq := hNs.2; gFr.free FM5 rfl (by omega) 2).trans (xM2.2.2.2.2.1 p 2 h0 h1 (by omega))) (fun b h0 h1 => (xM5.2.1 (b + 336) (by omega) (by omega)).trans (gFr.at FM2 (rs_RTO (k := b + 336) (by omega)).2.2 rfl))), (rl_rn.mv LR.2.2.2.2.2.2.2.2.2.1 ((gFr.at FM5 rc_206_11.2.2 rfl).trans xM2.2.2.2.2.2.2.1) (fun p h0 h1 => (have hq := hNs.2; gFr.free FM5 rfl (by omega) 3).trans (xM2.2.2.2.2.1 p 3 h0 h1 (by omega))) (fun b h0 h1 => (xM5.2.1 (b + 376) (by omega) (by omega)).trans (gFr.at FM2 (rs_RN (k := b + 376) (by omega)).2.2 rfl))), (rl_rweek.mv LR.2.2.2.2.2.2.2.2.2.2.1 ((gFr.at FM5 rc_206_11.2.2 rfl).trans xM2.2.2.2.2.2.2.1) (fun p h0 h1 => (have hq := hNs.2; gFr.free FM5 rfl (by omega) 4).trans (xM2.2.2.2.2.1 p 4 h0 h1 (by omega))) (fun b h0 h1 => (xM5.2.1 (b + 416) (by omega) (by omega)).trans (gFr.at FM2 (rs_RWEEK (k := b + 416) (by omega)).2.2 rfl))), (rl_rsure.mv LR.2.2.2.2.2.2.2.2.2.2.2.1 ((gFr.at FM5 rc_206_11.2.2 rfl).trans xM2.2.2.2.2.2.2.1) (fun p h0 h1 => (have hq := hNs.2; gFr.free FM5 rfl (by omega) 5).trans (xM2.2.2.2.2.1 p 5 h0 h1 (by omega))) (fun b h0 h1 => (xM5.2.1 (b + 456) (by omega) (by omega)).trans (gFr.at FM2 (rs_RSURE (k := b + 456) (by omega)).2.2 rfl))), (rl_proofs.mv LR.2.2.2.2.2.2.2.2.2.2.2.2 ((gFr.at FM5 rc_206_11.2.2 rfl).trans xM2.2.2.2.2.2.2.1) (fun p h0 h1 => (have hq := hNs.2; gFr.free FM5 rfl (by omega) 6).trans (xM2.2.2.2.2.1 p 6 h0 h1 (by omega))) (fun p h0 h1 => (have hq := hNs.2; gFr.free FM5 rfl (by omega) 7).trans (xM2.2.2.2.2.1 p 7 h0 h1 (by omega))) (fun p h0 h1 => (have hq := hNs.2; gFr.free FM5 rfl (by omega) 8).trans (xM2.2.2.2.2.1 p 8 h0 h1 (by omega))) ((xM5.2.1 3 (by omega) (by omega)).trans (gFr.at FM2 (rs_NE (k := 3) (by omega)).2.2 rfl)) (fun b h0 h1 => (xM5.2.1 (b + 496) (by omega) (by omega)).trans (gFr.at FM2 (rs_EKIND (k := b + 496) (by omega)).2.2 rfl)) (fun b h0 h1 => (xM5.2.1 (b + 576) (by omega) (by omega)).trans (gFr.at FM2 (rs_ERIGHT (k := b + 576) (by omega)).2.2 rfl)))⟩⟩, ⟨(rl_now.fr (rl_now.fr LR.1 hN FM2 rfl) (gN_of hsz IM2) FM5 rfl), (rl_npers.fr (rl_npers.fr LR.2.1 hN FM2 rfl) (gN_of hsz IM2) FM5 rfl), (rl_sex.fr (rl_sex.fr LR.2.2.1 hN FM2 rfl) (gN_of hsz IM2) FM5 rfl), (rl_born.fr (rl_born.fr LR.2.2.2.1 hN FM2 rfl) (gN_of hsz IM2) FM5 rfl), (rl_nright.fr (rl_nright.fr LR.2.2.2.2.1 hN FM2 rfl) (gN_of hsz IM2) FM5 rfl), (rl_nent.fr (rl_nent.fr LR.2.2.2.2.2.1 hN FM2 rfl) (gN_of hsz IM2) FM5 rfl), (rl_rkind.fr (rl_rkind.fr LR.2.2.2.2.2.2.1 hN FM2 rfl) (gN_of hsz IM2) FM5 rfl), (rl_rwho.fr (rl_rwho.fr LR.2.2.2.2.2.2.2.1 hN FM2 rfl) (gN_of hsz IM2) FM5 rfl), (rl_rto.fr (rl_rto.fr LR.2.2.2.2.2.2.2.2.1 hN FM2 rfl) (gN_of hsz IM2) FM5 rfl), (rl_rn.fr (rl_rn.fr LR.2.2.2.2.2.2.2.2.2.1 hN FM2 rfl) (gN_of hsz IM2) FM5 rfl), (rl_rweek.fr (rl_rweek.fr LR.2.2.2.2.2.2.2.2.2.2.1 hN FM2 rfl) (gN_of hsz IM2) FM5 rfl), (rl_rsure.fr (rl_rsure.fr LR.2.2.2.2.2.2.2.2.2.2.2.1 hN FM2 rfl) (gN_of hsz IM2) FM5 rfl), (rl_proofs.fr (rl_proofs.fr LR.2.2.2.2.2.2.2.2.2.2.2.2 hN FM2 rfl) (gN_of hsz IM2) FM5 rfl)⟩⟩
set_option maxRecDepth 100000 in
set_option maxHeartbeats 4000000 in
theorem law_case_43_1 {p : Program} {e : Env} {s : State} {m : MethodId} {below : List Frame} {meth : Method} {cd : Code} {l : Launch} {D : va_G} {cA : Nat → ClassId} {b Ln : Nat} {xs : Nat → Int32} (X : gCx p s m #[Value.ref b] meth cd s.heap.size D cA "ParishUnionLaw" code 4) (hr : meth.sig.returnType = ret) (hb : b < s.heap.size ∧ va_X b Ln xs s s.heap) (hLn : Ln ≤ 3584) {M : gM} (I : gI 358 M) (C : gC 358 M) (W : gW 191 M) (LA : M 1 13 ≤ 10) (LB : M 191 4 ≤ 10) (LR : lwRel M) (hkept : M 0 9 = 207) (hm4 : M 190 4 = 1) (hI13 : M 206 13 ≤ 10) (hI4 : M 193 4 ≤ 10) (WI : gW 193 M) (RI : lwRelI M) (i : Int) (hi : 0 ≤ i ∧ i + 7 ≤ (Ln : Int)) (kk : ∀ (zz cs ss : Nat) (M1 : gM), lwI zz cs ss M1 → G p l e room_1 s m #[Value.ref b] below meth cd s.heap.size D cA 4 (lw_Z below #[Value.ref b] s) cs ss M1 zz 1992 [(3, gJ i), (2, gA s.heap.size 190), (1, gA s.heap.size 0), (0, .ref b)] []) : G p l e room_1 s m #[Value.ref b] below meth cd s.heap.size D cA 4 (lw_Z below #[Value.ref b] s) 358 97974 M 358 1943 [(3, gJ i), (2, gA s.heap.size 190), (1, gA s.heap.size 0), (0, .ref b)] [] := by
  have hsz : 206 ≤ 358 := by decide
  have hsz8 : 358 = 358 := rfl
  have hN := gN_of hsz I
  have hRm : 358 + 0 ≤ room_1.cells ∧ 97974 + 0 ≤ room_1.slots := by show 358 + 0 ≤ 349274 ∧ 97974 + 0 ≤ 8054428; omega
  have hRi : 358 + 152 ≤ room_1.cells ∧ 97974 + 10507 ≤ room_1.slots := by show 358 + 152 ≤ 349274 ∧ 97974 + 10507 ≤ 8054428; omega
  obtain ⟨ac, hac, rac⟩ : ∃ v : Int, M 1 13 = v ∧ (0 ≤ v ∧ v ≤ 10) := by
    obtain ⟨v, hv, rv⟩ := gRd I (by decide) (gsz hsz (by decide)) rc_1_13.1
    exact ⟨v, hv, by omega⟩
  obtain ⟨ab, hab, rab⟩ : ∃ v : Int, M 191 4 = v ∧ (0 ≤ v ∧ v ≤ 10) := by
    obtain ⟨v, hv, rv⟩ := gRd I (by decide) (gsz hsz (by decide)) (rs_NA (k := 4) (by omega)).1
    exact ⟨v, hv, by omega⟩
  refine g_aload_n (n := 1944) X 2 dL_law_1943 rfl rfl rfl ?_
  refine g_callVi (n := 1947) (As := []) (rest := []) (cs1 := 358) (ss1 := 97974) X (s_X11_image1 hsz I C hsz8 hkept) okX11_image kw_5_208 ⟨kw_5_209, kw_5_210⟩ ⟨rfl, rfl⟩ ⟨Nat.le_of_ble_eq_true rfl, Nat.le_of_ble_eq_true rfl⟩ rfl (by decide) (gsz hsz (by decide)) lay_0 rfl rfl (Nat.le_of_ble_eq_true rfl) hRm rfl rfl dL_law_1944 rfl (fun v1 M2 P3 => ?_)
  obtain ⟨rv1, IM2, CM2, FM2, xM2⟩ := P3
  refine g_pop (n := 1948) X dL_law_1947 rfl rfl ?_
  refine g_aload_n (n := 1949) X 1 dL_law_1948 rfl rfl rfl ?_
  refine g_callVi (n := 1952) (As := []) (rest := []) (cs1 := 358) (ss1 := 97974) X (s_X12_image  hsz IM2 CM2 (gW.fr (S := 154553610251357748553842688) W ⟨358, hsz, I⟩ (gFr.c gFr.rf FM2 rfl) rfl)) okX12_image kw_8_37 ⟨kw_8_38, kw_8_39⟩ ⟨rfl, rfl⟩ ⟨Nat.le_of_ble_eq_true rfl, Nat.le_of_ble_eq_true rfl⟩ rfl (by decide) (gsz hsz (by decide)) lay_190 rfl rfl (Nat.le_of_ble_eq_true rfl) hRm rfl rfl dL_law_1949 rfl (fun v4 M5 P6 => ?_)
  obtain ⟨rv4, IM5, CM5, FM5, xM5⟩ := P6
  refine g_pop (n := 1953) X dL_law_1952 rfl rfl ?_
  refine g_goto (tgt := 1992) X dL_law_1953 (by decide) ?_
  have hNs := hN
  exact kk _ _ _ _ ⟨hsz, IM5, CM5, (gW.fr (S := 154563073431067561553821696) W ⟨358, hsz, I⟩ (gFr.c (gFr.c gFr.rf FM2 rfl) FM5 rfl) rfl), (by rw [((gFr.at FM5 rc_1_13.2.2 rfl).trans (gFr.at FM2 rc_1_13.2.2 rfl))]; exact LA), (by rw [((gFr.at FM5 (rs_NA (k := 4) (by omega)).2.2 rfl).trans (gFr.at FM2 (rs_NA (k := 4) (by omega)).2.2 rfl))]; exact LB), Or.inr ⟨rfl, rfl, rfl, (gFr.at FM5 rc_0_9.2.2 rfl).trans ((gFr.at FM2 rc_0_9.2.2 rfl).trans hkept), xM5.2.2.2, (by rw [gFr.at FM5 rc_206_13.2.2 rfl, xM2.2.2.2.2.2.2.2.2.1]; exact LA), (by rw [xM5.2.1 4 (by decide) (by decide), gFr.at FM2 (rs_NA (k := 4) (by omega)).2.2 rfl]; exact LB), xM5.1, ⟨(rl_now.mv LR.1 ((gFr.at FM5 rc_206_15.2.2 rfl).trans xM2.2.2.2.2.2.2.2.2.2.2.1) ((xM5.2.1 0 (by omega) (by omega)).trans (gFr.at FM2 (rs_NOW (k := 0) (by omega)).2.2 rfl))), (rl_npers.mv LR.2.1 ((gFr.at FM5 rc_206_10.2.2 rfl).trans xM2.2.2.2.2.2.1) ((xM5.2.1 1 (by omega) (by omega)).trans (gFr.at FM2 (rs_PERS (k := 1) (by omega)).2.2 rfl))), (rl_sex.mv LR.2.2.1 ((gFr.at FM5 rc_206_10.2.2 rfl).trans xM2.2.2.2.2.2.1) (fun p h0 h1 => (have hq := hNs.1; gFr.free FM5 rfl (by omega) 0).trans (xM2.2.2.2.1 p 0 h0 h1 (Or.inl (by omega)))) (fun b h0 h1 => (xM5.2.1 (b + 80) (by omega) (by omega)).trans (gFr.at FM2 (rs_SEX (k := b + 80) (by omega)).2.2 rfl))), (rl_born.mv LR.2.2.2.1 ((gFr.at FM5 rc_206_10.2.2 rfl).trans xM2.2.2.2.2.2.1) (fun p h0 h1 => (have hq := hNs.1; gFr.free FM5 rfl (by omega) 1).trans (xM2.2.2.2.1 p 1 h0 h1 (Or.inl (by omega)))) (fun b h0 h1 => (xM5.2.1 (b + 96) (by omega) (by omega)).trans (gFr.at FM2 (rs_BORN (k := b + 96) (by omega)).2.2 rfl))), (rl_nright.mv LR.2.2.2.2.1 ((gFr.at FM5 rc_206_11.2.2 rfl).trans xM2.2.2.2.2.2.2.1) ((xM5.2.1 2 (by omega) (by omega)).trans (gFr.at FM2 (rs_NR (k := 2) (by omega)).2.2 rfl))), (rl_nent.mv LR.2.2.2.2.2.1 ((gFr.at FM5 rc_206_12.2.2 rfl).trans xM2.2.2.2.2.2.2.2.1) ((xM5.2.1 3 (by omega) (by omega)).trans (gFr.at FM2 (rs_NE (k := 3) (by omega)).2.2 rfl))), (rl_rkind.mv LR.2.2.2.2.2.2.1 ((gFr.at FM5 rc_206_11.2.2 rfl).trans xM2.2.2.2.2.2.2.1) (fun p h0 h1 => (have hq := hNs.2; gFr.free FM5 rfl (by omega) 0).trans (xM2.2.2.2.2.1 p 0 h0 h1 (by omega))) (fun b h0 h1 => (xM5.2.1 (b + 256) (by omega) (by omega)).trans (gFr.at FM2 (rs_RKIND (k := b + 256) (by omega)).2.2 rfl))), (rl_rwho.mv LR.2.2.2.2.2.2.2.1 ((gFr.at FM5 rc_206_11.2.2 rfl).trans xM2.2.2.2.2.2.2.1) (fun p h0 h1 => (have hq := hNs.2; gFr.free FM5 rfl (by omega) 1).trans (xM2.2.2.2.2.1 p 1 h0 h1 (by omega))) (fun b h0 h1 => (xM5.2.1 (b + 296) (by omega) (by omega)).trans (gFr.at FM2 (rs_RWHO (k := b + 296) (by omega)).2.2 rfl))), (rl_rto.mv LR.2.2.2.2.2.2.2.2.1 ((gFr.at FM5 rc_206_11.2.2 rfl).trans xM2.2.2.2.2.2.2.1) (fun p h0 h1 => (have hq := hNs.2; gFr.free FM5 rfl (by omega) 2).trans (xM2.2.2.2.2.1 p 2 h0 h1 (by omega))) (fun b h0 h1 => (xM5.2.1 (b + 336) (by omega) (by omega)).trans (gFr.at FM2 (rs_RTO (k := b + 336) (by omega)).2.2 rfl))), (rl_rn.mv LR.2.2.2.2.2.2.2.2.2.1 ((gFr.at FM5 rc_206_11.2.2 rfl).trans xM2.2.2.2.2.2.2.1) (fun p h0 h1 => (have hq := hNs.2; gFr.free FM5 rfl (by omega) 3).trans (xM2.2.2.2.2.1 p 3 h0 h1 (by omega))) (fun b h0 h1 => (xM5.2.1 (b + 376) (by omega) (by omega)).trans (gFr.at FM2 (rs_RN (k := b + 376) (by omega)).2.2 rfl))), (rl_rweek.mv LR.2.2.2.2.2.2.2.2.2.2.1 ((gFr.at FM5 rc_206_11.2.2 rfl).trans xM2.2.2.2.2.2.2.1) (fun p h0 h1 => (have hq := hNs.2; gFr.free FM5 rfl (by omega) 4).trans (xM2.2.2.2.2.1 p 4 h0 h1 (by omega))) (fun b h0 h1 => (xM5.2.1 (b + 416) (by omega) (by omega)).trans (gFr.at FM2 (rs_RWEEK (k := b + 416) (by omega)).2.2 rfl))), (rl_rsure.mv LR.2.2.2.2.2.2.2.2.2.2.2.1 ((gFr.at FM5 rc_206_11.2.2 rfl).trans xM2.2.2.2.2.2.2.1) (fun p h0 h1 => (have hq := hNs.2; gFr.free FM5 rfl (by omega) 5).trans (xM2.2.2.2.2.1 p 5 h0 h1 (by omega))) (fun b h0 h1 => (xM5.2.1 (b + 456) (by omega) (by omega)).trans (gFr.at FM2 (rs_RSURE (k := b + 456) (by omega)).2.2 rfl))), (rl_proofs.mv LR.2.2.2.2.2.2.2.2.2.2.2.2 ((gFr.at FM5 rc_206_11.2.2 rfl).trans xM2.2.2.2.2.2.2.1) (fun p h0 h1 => (have hq := hNs.2; gFr.free FM5 rfl (by omega) 6).trans (xM2.2.2.2.2.1 p 6 h0 h1 (by omega))) (fun p h0 h1 => (have hq := hNs.2; gFr.free FM5 rfl (by omega) 7).trans (xM2.2.2.2.2.1 p 7 h0 h1 (by omega))) (fun p h0 h1 => (have hq := hNs.2; gFr.free FM5 rfl (by omega) 8).trans (xM2.2.2.2.2.1 p 8 h0 h1 (by omega))) ((xM5.2.1 3 (by omega) (by omega)).trans (gFr.at FM2 (rs_NE (k := 3) (by omega)).2.2 rfl)) (fun b h0 h1 => (xM5.2.1 (b + 496) (by omega) (by omega)).trans (gFr.at FM2 (rs_EKIND (k := b + 496) (by omega)).2.2 rfl)) (fun b h0 h1 => (xM5.2.1 (b + 576) (by omega) (by omega)).trans (gFr.at FM2 (rs_ERIGHT (k := b + 576) (by omega)).2.2 rfl)))⟩⟩, ⟨(rl_now.fr (rl_now.fr LR.1 hN FM2 rfl) (gN_of hsz IM2) FM5 rfl), (rl_npers.fr (rl_npers.fr LR.2.1 hN FM2 rfl) (gN_of hsz IM2) FM5 rfl), (rl_sex.fr (rl_sex.fr LR.2.2.1 hN FM2 rfl) (gN_of hsz IM2) FM5 rfl), (rl_born.fr (rl_born.fr LR.2.2.2.1 hN FM2 rfl) (gN_of hsz IM2) FM5 rfl), (rl_nright.fr (rl_nright.fr LR.2.2.2.2.1 hN FM2 rfl) (gN_of hsz IM2) FM5 rfl), (rl_nent.fr (rl_nent.fr LR.2.2.2.2.2.1 hN FM2 rfl) (gN_of hsz IM2) FM5 rfl), (rl_rkind.fr (rl_rkind.fr LR.2.2.2.2.2.2.1 hN FM2 rfl) (gN_of hsz IM2) FM5 rfl), (rl_rwho.fr (rl_rwho.fr LR.2.2.2.2.2.2.2.1 hN FM2 rfl) (gN_of hsz IM2) FM5 rfl), (rl_rto.fr (rl_rto.fr LR.2.2.2.2.2.2.2.2.1 hN FM2 rfl) (gN_of hsz IM2) FM5 rfl), (rl_rn.fr (rl_rn.fr LR.2.2.2.2.2.2.2.2.2.1 hN FM2 rfl) (gN_of hsz IM2) FM5 rfl), (rl_rweek.fr (rl_rweek.fr LR.2.2.2.2.2.2.2.2.2.2.1 hN FM2 rfl) (gN_of hsz IM2) FM5 rfl), (rl_rsure.fr (rl_rsure.fr LR.2.2.2.2.2.2.2.2.2.2.2.1 hN FM2 rfl) (gN_of hsz IM2) FM5 rfl), (rl_proofs.fr (rl_proofs.fr LR.2.2.2.2.2.2.2.2.2.2.2.2 hN FM2 rfl) (gN_of hsz IM2) FM5 rfl)⟩⟩
theorem law_case_43 {p : Program} {e : Env} {s : State} {m : MethodId} {below : List Frame} {meth : Method} {cd : Code} {l : Launch} {D : va_G} {cA : Nat → ClassId} {b Ln : Nat} {xs : Nat → Int32} (X : gCx p s m #[Value.ref b] meth cd s.heap.size D cA "ParishUnionLaw" code 4) (hr : meth.sig.returnType = ret) (hb : b < s.heap.size ∧ va_X b Ln xs s s.heap) (hLn : Ln ≤ 3584) {sz cs ss : Nat} {M : gM} (L : lwI sz cs ss M) (i : Int) (hi : 0 ≤ i ∧ i + 7 ≤ (Ln : Int)) (kk : ∀ (sz cs ss : Nat) (M1 : gM), lwI sz cs ss M1 → G p l e room_1 s m #[Value.ref b] below meth cd s.heap.size D cA 4 (lw_Z below #[Value.ref b] s) cs ss M1 sz 1992 [(3, gJ i), (2, gA s.heap.size 190), (1, gA s.heap.size 0), (0, .ref b)] []) : G p l e room_1 s m #[Value.ref b] below meth cd s.heap.size D cA 4 (lw_Z below #[Value.ref b] s) cs ss M sz 1943 [(3, gJ i), (2, gA s.heap.size 190), (1, gA s.heap.size 0), (0, .ref b)] [] := by
  obtain ⟨hsz, I, C, W, LA, LB, LK, LR⟩ := L
  unfold lwK at LK
  rcases LK with ⟨k1, k2, k3, k4, k5, k6⟩ | ⟨k1, k2, k3, k4, k5, k6, k7, k8, k9⟩
  · subst k1; subst k2; subst k3; exact law_case_43_0 X hr hb hLn I C W LA LB LR k4 k5 k6 i hi kk
  · subst k1; subst k2; subst k3; exact law_case_43_1 X hr hb hLn I C W LA LB LR k4 k5 k6 k7 k8 k9 i hi kk
theorem dL_law_1956 : decode code 1956 = .ok (.aload_n 1, 1) := dc_43 (by decide +kernel)
theorem dL_law_1957 : decode code 1957 = .ok (.invokevirtual 203, 3) := dc_182 0 203 (by decide +kernel)
theorem kw_6_9 : (Jvm.Cond.methodLink "ParishUnionLaw" (203 : Nat) ({ cls := "ParishUnion", name := "undo", desc := "()I" } : Jvm.MethodName)) ∈ gT := gT_of (tb_6 _ (List.mem_of_getElem? (i := 9) rfl)) rfl
theorem kw_6_12 : (Jvm.Cond.code ({ cls := "ParishUnion", name := "undo", desc := "()I" } : Jvm.MethodName) prog_1_method_46_code (1 : Nat) (Option.some Jvm.ClassFile.FieldType.int)) ∈ gT := gT_of (tb_6 _ (List.mem_of_getElem? (i := 12) rfl)) rfl
theorem okX11_undo : gQok yX11_undo cX11_undo 1 (Option.some Jvm.ClassFile.FieldType.int) 0 := ⟨kw_6_12, kw_1_1, by decide +kernel, by decide +kernel, by decide +kernel⟩
theorem kw_6_10 : (Jvm.Cond.instanceMethod ({ cls := "ParishUnion", name := "undo", desc := "()I" } : Jvm.MethodName)) ∈ gT := gT_of (tb_6 _ (List.mem_of_getElem? (i := 10) rfl)) rfl
theorem kw_6_11 : (Jvm.Cond.selects "ParishUnion" ({ cls := "ParishUnion", name := "undo", desc := "()I" } : Jvm.MethodName) ({ cls := "ParishUnion", name := "undo", desc := "()I" } : Jvm.MethodName)) ∈ gT := gT_of (tb_6 _ (List.mem_of_getElem? (i := 11) rfl)) rfl
theorem dL_law_1960 : decode code 1960 = .ok (.pop, 1) := dc_87 (by decide +kernel)
theorem dL_law_1961 : decode code 1961 = .ok (.aload_n 2, 1) := dc_44 (by decide +kernel)
theorem dL_law_1962 : decode code 1962 = .ok (.invokevirtual 206, 3) := dc_182 0 206 (by decide +kernel)
theorem kw_8_41 : (Jvm.Cond.methodLink "ParishUnionLaw" (206 : Nat) ({ cls := "ParishUnionModel", name := "undo", desc := "()I" } : Jvm.MethodName)) ∈ gT := gT_of (tb_8 _ (List.mem_of_getElem? (i := 41) rfl)) rfl
theorem kw_8_44 : (Jvm.Cond.code ({ cls := "ParishUnionModel", name := "undo", desc := "()I" } : Jvm.MethodName) prog_14_method_106_code (1 : Nat) (Option.some Jvm.ClassFile.FieldType.int)) ∈ gT := gT_of (tb_8 _ (List.mem_of_getElem? (i := 44) rfl)) rfl
theorem okX12_undo : gQok yX12_undo cX12_undo 1 (Option.some Jvm.ClassFile.FieldType.int) 0 := ⟨kw_8_44, kw_1_13, by decide +kernel, by decide +kernel, by decide +kernel⟩
theorem kw_8_42 : (Jvm.Cond.instanceMethod ({ cls := "ParishUnionModel", name := "undo", desc := "()I" } : Jvm.MethodName)) ∈ gT := gT_of (tb_8 _ (List.mem_of_getElem? (i := 42) rfl)) rfl
theorem kw_8_43 : (Jvm.Cond.selects "ParishUnionModel" ({ cls := "ParishUnionModel", name := "undo", desc := "()I" } : Jvm.MethodName) ({ cls := "ParishUnionModel", name := "undo", desc := "()I" } : Jvm.MethodName)) ∈ gT := gT_of (tb_8 _ (List.mem_of_getElem? (i := 43) rfl)) rfl
theorem dL_law_1965 : decode code 1965 = .ok (.pop, 1) := dc_87 (by decide +kernel)
theorem dL_law_1966 : decode code 1966 = .ok (.goto 26, 3) := dc_167 0 26 26 (by decide +kernel)
set_option maxRecDepth 100000 in
set_option maxHeartbeats 4000000 in
theorem law_case_44_0 {p : Program} {e : Env} {s : State} {m : MethodId} {below : List Frame} {meth : Method} {cd : Code} {l : Launch} {D : va_G} {cA : Nat → ClassId} {b Ln : Nat} {xs : Nat → Int32} (X : gCx p s m #[Value.ref b] meth cd s.heap.size D cA "ParishUnionLaw" code 4) (hr : meth.sig.returnType = ret) (hb : b < s.heap.size ∧ va_X b Ln xs s s.heap) (hLn : Ln ≤ 3584) {M : gM} (I : gI 206 M) (C : gC 206 M) (W : gW 191 M) (LA : M 1 13 ≤ 10) (LB : M 191 4 ≤ 10) (LR : lwRel M) (hkept : M 0 9 = 0) (hm4 : M 190 4 = 0) (hfree : gZ 206 M) (i : Int) (hi : 0 ≤ i ∧ i + 7 ≤ (Ln : Int)) (kk : ∀ (zz cs ss : Nat) (M1 : gM), lwI zz cs ss M1 → G p l e room_1 s m #[Value.ref b] below meth cd s.heap.size D cA 4 (lw_Z below #[Value.ref b] s) cs ss M1 zz 1992 [(3, gJ i), (2, gA s.heap.size 190), (1, gA s.heap.size 0), (0, .ref b)] []) : G p l e room_1 s m #[Value.ref b] below meth cd s.heap.size D cA 4 (lw_Z below #[Value.ref b] s) 206 87467 M 206 1956 [(3, gJ i), (2, gA s.heap.size 190), (1, gA s.heap.size 0), (0, .ref b)] [] := by
  have hsz : 206 ≤ 206 := by decide
  have hsz8 : 358 = 358 := rfl
  have hN := gN_of hsz I
  have hRm : 206 + 0 ≤ room_1.cells ∧ 87467 + 0 ≤ room_1.slots := by show 206 + 0 ≤ 349274 ∧ 87467 + 0 ≤ 8054428; omega
  have hRi : 206 + 152 ≤ room_1.cells ∧ 87467 + 10507 ≤ room_1.slots := by show 206 + 152 ≤ 349274 ∧ 87467 + 10507 ≤ 8054428; omega
  obtain ⟨ac, hac, rac⟩ : ∃ v : Int, M 1 13 = v ∧ (0 ≤ v ∧ v ≤ 10) := by
    obtain ⟨v, hv, rv⟩ := gRd I (by decide) (gsz hsz (by decide)) rc_1_13.1
    exact ⟨v, hv, by omega⟩
  obtain ⟨ab, hab, rab⟩ : ∃ v : Int, M 191 4 = v ∧ (0 ≤ v ∧ v ≤ 10) := by
    obtain ⟨v, hv, rv⟩ := gRd I (by decide) (gsz hsz (by decide)) (rs_NA (k := 4) (by omega)).1
    exact ⟨v, hv, by omega⟩
  refine g_aload_n (n := 1957) X 2 dL_law_1956 rfl rfl rfl ?_
  refine g_callVi (n := 1960) (As := []) (rest := []) (cs1 := 206) (ss1 := 87467) X (s_X11_undo0 hsz I C hkept) okX11_undo kw_6_9 ⟨kw_6_10, kw_6_11⟩ ⟨rfl, rfl⟩ ⟨Nat.le_of_ble_eq_true rfl, Nat.le_of_ble_eq_true rfl⟩ rfl (by decide) (gsz hsz (by decide)) lay_0 rfl rfl (Nat.le_of_ble_eq_true rfl) hRm rfl rfl dL_law_1957 rfl (fun v1 M2 P3 => ?_)
  obtain ⟨rfl, rv1, xu0⟩ := P3
  refine g_pop (n := 1961) X dL_law_1960 rfl rfl ?_
  refine g_aload_n (n := 1962) X 1 dL_law_1961 rfl rfl rfl ?_
  have hWi : M 190 4 = 1 → gW 193 M := fun h => by exfalso; omega
  refine g_callVi (n := 1965) (As := []) (rest := []) (cs1 := 206) (ss1 := 87467) X (s_X12_undo  hsz I C hWi) okX12_undo kw_8_41 ⟨kw_8_42, kw_8_43⟩ ⟨rfl, rfl⟩ ⟨Nat.le_of_ble_eq_true rfl, Nat.le_of_ble_eq_true rfl⟩ rfl (by decide) (gsz hsz (by decide)) lay_190 rfl rfl (Nat.le_of_ble_eq_true rfl) hRm rfl rfl dL_law_1962 rfl (fun v4 M5 P6 => ?_)
  obtain ⟨rv4, IM5, CM5, FM5, xM5⟩ := P6
  refine g_pop (n := 1966) X dL_law_1965 rfl rfl ?_
  refine g_goto (tgt := 1992) X dL_law_1966 (by decide) ?_
  rcases xM5 with ⟨-, -, eM⟩ | ⟨q, -⟩
  · subst eM; exact kk _ _ _ _ ⟨hsz, I, C, W, LA, LB, Or.inl ⟨rfl, rfl, rfl, hkept, hm4, hfree⟩, LR⟩
  · exfalso; omega
set_option maxRecDepth 100000 in
set_option maxHeartbeats 4000000 in
theorem law_case_44_1 {p : Program} {e : Env} {s : State} {m : MethodId} {below : List Frame} {meth : Method} {cd : Code} {l : Launch} {D : va_G} {cA : Nat → ClassId} {b Ln : Nat} {xs : Nat → Int32} (X : gCx p s m #[Value.ref b] meth cd s.heap.size D cA "ParishUnionLaw" code 4) (hr : meth.sig.returnType = ret) (hb : b < s.heap.size ∧ va_X b Ln xs s s.heap) (hLn : Ln ≤ 3584) {M : gM} (I : gI 358 M) (C : gC 358 M) (W : gW 191 M) (LA : M 1 13 ≤ 10) (LB : M 191 4 ≤ 10) (LR : lwRel M) (hkept : M 0 9 = 207) (hm4 : M 190 4 = 1) (hI13 : M 206 13 ≤ 10) (hI4 : M 193 4 ≤ 10) (WI : gW 193 M) (RI : lwRelI M) (i : Int) (hi : 0 ≤ i ∧ i + 7 ≤ (Ln : Int)) (kk : ∀ (zz cs ss : Nat) (M1 : gM), lwI zz cs ss M1 → G p l e room_1 s m #[Value.ref b] below meth cd s.heap.size D cA 4 (lw_Z below #[Value.ref b] s) cs ss M1 zz 1992 [(3, gJ i), (2, gA s.heap.size 190), (1, gA s.heap.size 0), (0, .ref b)] []) : G p l e room_1 s m #[Value.ref b] below meth cd s.heap.size D cA 4 (lw_Z below #[Value.ref b] s) 358 97974 M 358 1956 [(3, gJ i), (2, gA s.heap.size 190), (1, gA s.heap.size 0), (0, .ref b)] [] := by
  have hsz : 206 ≤ 358 := by decide
  have hsz8 : 358 = 358 := rfl
  have hN := gN_of hsz I
  have hRm : 358 + 0 ≤ room_1.cells ∧ 97974 + 0 ≤ room_1.slots := by show 358 + 0 ≤ 349274 ∧ 97974 + 0 ≤ 8054428; omega
  have hRi : 358 + 152 ≤ room_1.cells ∧ 97974 + 10507 ≤ room_1.slots := by show 358 + 152 ≤ 349274 ∧ 97974 + 10507 ≤ 8054428; omega
  obtain ⟨ac, hac, rac⟩ : ∃ v : Int, M 1 13 = v ∧ (0 ≤ v ∧ v ≤ 10) := by
    obtain ⟨v, hv, rv⟩ := gRd I (by decide) (gsz hsz (by decide)) rc_1_13.1
    exact ⟨v, hv, by omega⟩
  obtain ⟨ab, hab, rab⟩ : ∃ v : Int, M 191 4 = v ∧ (0 ≤ v ∧ v ≤ 10) := by
    obtain ⟨v, hv, rv⟩ := gRd I (by decide) (gsz hsz (by decide)) (rs_NA (k := 4) (by omega)).1
    exact ⟨v, hv, by omega⟩
  refine g_aload_n (n := 1957) X 2 dL_law_1956 rfl rfl rfl ?_
  refine g_callVi (n := 1960) (As := []) (rest := []) (cs1 := 358) (ss1 := 97974) X (s_X11_undo1 hsz I C hsz8 hkept) okX11_undo kw_6_9 ⟨kw_6_10, kw_6_11⟩ ⟨rfl, rfl⟩ ⟨Nat.le_of_ble_eq_true rfl, Nat.le_of_ble_eq_true rfl⟩ rfl (by decide) (gsz hsz (by decide)) lay_0 rfl rfl (Nat.le_of_ble_eq_true rfl) hRm rfl rfl dL_law_1957 rfl (fun v1 M2 P3 => ?_)
  obtain ⟨rv1, IM2, CM2, FM2, xM2⟩ := P3
  refine g_pop (n := 1961) X dL_law_1960 rfl rfl ?_
  refine g_aload_n (n := 1962) X 1 dL_law_1961 rfl rfl rfl ?_
  have hWi : M2 190 4 = 1 → gW 193 M2 := fun _ => gW.same WI (fun b => gFr.at FM2 (show gG 193 b = 64 from rfl) rfl)
  refine g_callVi (n := 1965) (As := []) (rest := []) (cs1 := 358) (ss1 := 97974) X (s_X12_undo  hsz IM2 CM2 hWi) okX12_undo kw_8_41 ⟨kw_8_42, kw_8_43⟩ ⟨rfl, rfl⟩ ⟨Nat.le_of_ble_eq_true rfl, Nat.le_of_ble_eq_true rfl⟩ rfl (by decide) (gsz hsz (by decide)) lay_190 rfl rfl (Nat.le_of_ble_eq_true rfl) hRm rfl rfl dL_law_1962 rfl (fun v4 M5 P6 => ?_)
  obtain ⟨rv4, IM5, CM5, FM5, xM5⟩ := P6
  refine g_pop (n := 1966) X dL_law_1965 rfl rfl ?_
  refine g_goto (tgt := 1992) X dL_law_1966 (by decide) ?_
  have hNs : M 206 10 ≤ 16 ∧ M 206 11 ≤ 40 := ⟨by have h := I 206 10 (by decide) (by decide); rw [rc_206_10.1] at h; exact h.2, by have h := I 206 11 (by decide) (by decide); rw [rc_206_11.1] at h; exact h.2⟩
  have hM4 : M2 190 4 = 1 := (gFr.at FM2 rc_190_4.2.2 rfl).trans hm4
  rcases xM5 with ⟨q, -, -⟩ | ⟨-, -, xE, xW⟩
  · exfalso; omega
  · exact kk _ _ _ _ ⟨hsz, IM5, CM5, xW, (by rw [gFr.at FM5 rc_1_13.2.2 rfl, xM2.2.2.2.2.2.2.2.2.1]; exact hI13), (by rw [xE 4 (by decide) (by decide), gFr.at FM2 (show gG 193 4 = 64 from rfl) rfl]; exact hI4), (lwK.fr (Or.inr ⟨rfl, rfl, rfl, hkept, hm4, hI13, hI4, WI, RI⟩) ((gFr.c (gFr.c gFr.rf FM2 rfl) FM5 rfl) : gFr 2321138173179270376670101502 M M5) rfl), ⟨(rl_now.mv RI.1 ((gFr.at FM5 rc_1_15.2.2 rfl).trans xM2.2.2.2.2.2.2.2.2.2.2.1) ((xE 0 (by omega) (by omega)).trans (gFr.at FM2 (show gG 193 0 = 64 from rfl) rfl))), (rl_npers.mv RI.2.1 ((gFr.at FM5 rc_1_10.2.2 rfl).trans xM2.2.2.2.2.2.1) ((xE 1 (by omega) (by omega)).trans (gFr.at FM2 (show gG 193 1 = 64 from rfl) rfl))), (rl_sex.mv RI.2.2.1 ((gFr.at FM5 rc_1_10.2.2 rfl).trans xM2.2.2.2.2.2.1) (fun p h0 h1 => (have hq := hNs.1; gFr.at FM5 (rP_0 (o := 31 + p) (by omega)).2.2 rfl).trans (xM2.2.2.2.1 p 0 h0 h1 (Or.inl (by omega)))) (fun b h0 h1 => (xE (b + 80) (by omega) (by omega)).trans (gFr.at FM2 (show gG 193 (b + 80) = 64 from rfl) rfl))), (rl_born.mv RI.2.2.2.1 ((gFr.at FM5 rc_1_10.2.2 rfl).trans xM2.2.2.2.2.2.1) (fun p h0 h1 => (have hq := hNs.1; gFr.at FM5 (rP_1 (o := 31 + p) (by omega)).2.2 rfl).trans (xM2.2.2.2.1 p 1 h0 h1 (Or.inl (by omega)))) (fun b h0 h1 => (xE (b + 96) (by omega) (by omega)).trans (gFr.at FM2 (show gG 193 (b + 96) = 64 from rfl) rfl))), (rl_nright.mv RI.2.2.2.2.1 ((gFr.at FM5 rc_1_11.2.2 rfl).trans xM2.2.2.2.2.2.2.1) ((xE 2 (by omega) (by omega)).trans (gFr.at FM2 (show gG 193 2 = 64 from rfl) rfl))), (rl_nent.mv RI.2.2.2.2.2.1 ((gFr.at FM5 rc_1_12.2.2 rfl).trans xM2.2.2.2.2.2.2.2.1) ((xE 3 (by omega) (by omega)).trans (gFr.at FM2 (show gG 193 3 = 64 from rfl) rfl))), (rl_rkind.mv RI.2.2.2.2.2.2.1 ((gFr.at FM5 rc_1_11.2.2 rfl).trans xM2.2.2.2.2.2.2.1) (fun p h0 h1 => (have hq := hNs.2; gFr.at FM5 (rR_0 (o := 47 + p) (by omega)).2.2 rfl).trans (xM2.2.2.2.2.1 p 0 h0 h1 (by omega))) (fun b h0 h1 => (xE (b + 256) (by omega) (by omega)).trans (gFr.at FM2 (show gG 193 (b + 256) = 64 from rfl) rfl))), (rl_rwho.mv RI.2.2.2.2.2.2.2.1 ((gFr.at FM5 rc_1_11.2.2 rfl).trans xM2.2.2.2.2.2.2.1) (fun p h0 h1 => (have hq := hNs.2; gFr.at FM5 (rR_1 (o := 47 + p) (by omega)).2.2 rfl).trans (xM2.2.2.2.2.1 p 1 h0 h1 (by omega))) (fun b h0 h1 => (xE (b + 296) (by omega) (by omega)).trans (gFr.at FM2 (show gG 193 (b + 296) = 64 from rfl) rfl))), (rl_rto.mv RI.2.2.2.2.2.2.2.2.1 ((gFr.at FM5 rc_1_11.2.2 rfl).trans xM2.2.2.2.2.2.2.1) (fun p h0 h1 => (have hq := hNs.2; gFr.at FM5 (rR_2 (o := 47 + p) (by omega)).2.2 rfl).trans (xM2.2.2.2.2.1 p 2 h0 h1 (by omega))) (fun b h0 h1 => (xE (b + 336) (by omega) (by omega)).trans (gFr.at FM2 (show gG 193 (b + 336) = 64 from rfl) rfl))), (rl_rn.mv RI.2.2.2.2.2.2.2.2.2.1 ((gFr.at FM5 rc_1_11.2.2 rfl).trans xM2.2.2.2.2.2.2.1) (fun p h0 h1 => (have hq := hNs.2; gFr.at FM5 (rR_3 (o := 47 + p) (by omega)).2.2 rfl).trans (xM2.2.2.2.2.1 p 3 h0 h1 (by omega))) (fun b h0 h1 => (xE (b + 376) (by omega) (by omega)).trans (gFr.at FM2 (show gG 193 (b + 376) = 64 from rfl) rfl))), (rl_rweek.mv RI.2.2.2.2.2.2.2.2.2.2.1 ((gFr.at FM5 rc_1_11.2.2 rfl).trans xM2.2.2.2.2.2.2.1) (fun p h0 h1 => (have hq := hNs.2; gFr.at FM5 (rR_4 (o := 47 + p) (by omega)).2.2 rfl).trans (xM2.2.2.2.2.1 p 4 h0 h1 (by omega))) (fun b h0 h1 => (xE (b + 416) (by omega) (by omega)).trans (gFr.at FM2 (show gG 193 (b + 416) = 64 from rfl) rfl))), (rl_rsure.mv RI.2.2.2.2.2.2.2.2.2.2.2.1 ((gFr.at FM5 rc_1_11.2.2 rfl).trans xM2.2.2.2.2.2.2.1) (fun p h0 h1 => (have hq := hNs.2; gFr.at FM5 (rR_5 (o := 47 + p) (by omega)).2.2 rfl).trans (xM2.2.2.2.2.1 p 5 h0 h1 (by omega))) (fun b h0 h1 => (xE (b + 456) (by omega) (by omega)).trans (gFr.at FM2 (show gG 193 (b + 456) = 64 from rfl) rfl))), (rl_proofs.mv RI.2.2.2.2.2.2.2.2.2.2.2.2 ((gFr.at FM5 rc_1_11.2.2 rfl).trans xM2.2.2.2.2.2.2.1) (fun p h0 h1 => (have hq := hNs.2; gFr.at FM5 (rR_6 (o := 47 + p) (by omega)).2.2 rfl).trans (xM2.2.2.2.2.1 p 6 h0 h1 (by omega))) (fun p h0 h1 => (have hq := hNs.2; gFr.at FM5 (rR_7 (o := 47 + p) (by omega)).2.2 rfl).trans (xM2.2.2.2.2.1 p 7 h0 h1 (by omega))) (fun p h0 h1 => (have hq := hNs.2; gFr.at FM5 (rR_8 (o := 47 + p) (by omega)).2.2 rfl).trans (xM2.2.2.2.2.1 p 8 h0 h1 (by omega))) ((xE 3 (by omega) (by omega)).trans (gFr.at FM2 (show gG 193 3 = 64 from rfl) rfl)) (fun b h0 h1 => (xE (b + 496) (by omega) (by omega)).trans (gFr.at FM2 (show gG 193 (b + 496) = 64 from rfl) rfl)) (fun b h0 h1 => (xE (b + 576) (by omega) (by omega)).trans (gFr.at FM2 (show gG 193 (b + 576) = 64 from rfl) rfl)))⟩⟩
theorem law_case_44 {p : Program} {e : Env} {s : State} {m : MethodId} {below : List Frame} {meth : Method} {cd : Code} {l : Launch} {D : va_G} {cA : Nat → ClassId} {b Ln : Nat} {xs : Nat → Int32} (X : gCx p s m #[Value.ref b] meth cd s.heap.size D cA "ParishUnionLaw" code 4) (hr : meth.sig.returnType = ret) (hb : b < s.heap.size ∧ va_X b Ln xs s s.heap) (hLn : Ln ≤ 3584) {sz cs ss : Nat} {M : gM} (L : lwI sz cs ss M) (i : Int) (hi : 0 ≤ i ∧ i + 7 ≤ (Ln : Int)) (kk : ∀ (sz cs ss : Nat) (M1 : gM), lwI sz cs ss M1 → G p l e room_1 s m #[Value.ref b] below meth cd s.heap.size D cA 4 (lw_Z below #[Value.ref b] s) cs ss M1 sz 1992 [(3, gJ i), (2, gA s.heap.size 190), (1, gA s.heap.size 0), (0, .ref b)] []) : G p l e room_1 s m #[Value.ref b] below meth cd s.heap.size D cA 4 (lw_Z below #[Value.ref b] s) cs ss M sz 1956 [(3, gJ i), (2, gA s.heap.size 190), (1, gA s.heap.size 0), (0, .ref b)] [] := by
  obtain ⟨hsz, I, C, W, LA, LB, LK, LR⟩ := L
  unfold lwK at LK
  rcases LK with ⟨k1, k2, k3, k4, k5, k6⟩ | ⟨k1, k2, k3, k4, k5, k6, k7, k8, k9⟩
  · subst k1; subst k2; subst k3; exact law_case_44_0 X hr hb hLn I C W LA LB LR k4 k5 k6 i hi kk
  · subst k1; subst k2; subst k3; exact law_case_44_1 X hr hb hLn I C W LA LB LR k4 k5 k6 k7 k8 k9 i hi kk
theorem dL_law_1969 : decode code 1969 = .ok (.aload_n 1, 1) := dc_43 (by decide +kernel)
theorem dL_law_1970 : decode code 1970 = .ok (.aload_n 0, 1) := dc_42 (by decide +kernel)
theorem dL_law_1971 : decode code 1971 = .ok (.iload_n 3, 1) := dc_29 (by decide +kernel)
theorem dL_law_1972 : decode code 1972 = .ok (.iconst 1, 1) := dc_4 (by decide +kernel)
theorem dL_law_1973 : decode code 1973 = .ok (.iadd, 1) := dc_96 (by decide +kernel)
theorem dL_law_1974 : decode code 1974 = .ok (.iaload, 1) := dc_46 (by decide +kernel)
theorem dL_law_1975 : decode code 1975 = .ok (.invokevirtual 207, 3) := dc_182 0 207 (by decide +kernel)
theorem kw_6_13 : (Jvm.Cond.methodLink "ParishUnionLaw" (207 : Nat) ({ cls := "ParishUnion", name := "count", desc := "(I)I" } : Jvm.MethodName)) ∈ gT := gT_of (tb_6 _ (List.mem_of_getElem? (i := 13) rfl)) rfl
theorem kw_6_16 : (Jvm.Cond.code ({ cls := "ParishUnion", name := "count", desc := "(I)I" } : Jvm.MethodName) prog_1_method_47_code (2 : Nat) (Option.some Jvm.ClassFile.FieldType.int)) ∈ gT := gT_of (tb_6 _ (List.mem_of_getElem? (i := 16) rfl)) rfl
theorem okX11_count : gQok yX11_count cX11_count 2 (Option.some Jvm.ClassFile.FieldType.int) 1 := ⟨kw_6_16, kw_1_1, by decide +kernel, by decide +kernel, by decide +kernel⟩
theorem kw_6_14 : (Jvm.Cond.instanceMethod ({ cls := "ParishUnion", name := "count", desc := "(I)I" } : Jvm.MethodName)) ∈ gT := gT_of (tb_6 _ (List.mem_of_getElem? (i := 14) rfl)) rfl
theorem kw_6_15 : (Jvm.Cond.selects "ParishUnion" ({ cls := "ParishUnion", name := "count", desc := "(I)I" } : Jvm.MethodName) ({ cls := "ParishUnion", name := "count", desc := "(I)I" } : Jvm.MethodName)) ∈ gT := gT_of (tb_6 _ (List.mem_of_getElem? (i := 15) rfl)) rfl
theorem dL_law_1978 : decode code 1978 = .ok (.pop, 1) := dc_87 (by decide +kernel)
theorem dL_law_1979 : decode code 1979 = .ok (.aload_n 2, 1) := dc_44 (by decide +kernel)
theorem dL_law_1980 : decode code 1980 = .ok (.aload_n 0, 1) := dc_42 (by decide +kernel)
theorem dL_law_1981 : decode code 1981 = .ok (.iload_n 3, 1) := dc_29 (by decide +kernel)
theorem dL_law_1982 : decode code 1982 = .ok (.iconst 1, 1) := dc_4 (by decide +kernel)
theorem dL_law_1983 : decode code 1983 = .ok (.iadd, 1) := dc_96 (by decide +kernel)
theorem dL_law_1984 : decode code 1984 = .ok (.iaload, 1) := dc_46 (by decide +kernel)
theorem dL_law_1985 : decode code 1985 = .ok (.invokevirtual 210, 3) := dc_182 0 210 (by decide +kernel)
theorem kw_8_45 : (Jvm.Cond.methodLink "ParishUnionLaw" (210 : Nat) ({ cls := "ParishUnionModel", name := "count", desc := "(I)I" } : Jvm.MethodName)) ∈ gT := gT_of (tb_8 _ (List.mem_of_getElem? (i := 45) rfl)) rfl
theorem kw_8_48 : (Jvm.Cond.code ({ cls := "ParishUnionModel", name := "count", desc := "(I)I" } : Jvm.MethodName) prog_14_method_108_code (2 : Nat) (Option.some Jvm.ClassFile.FieldType.int)) ∈ gT := gT_of (tb_8 _ (List.mem_of_getElem? (i := 48) rfl)) rfl
theorem okX12_count : gQok yX12_count cX12_count 2 (Option.some Jvm.ClassFile.FieldType.int) 1 := ⟨kw_8_48, kw_1_13, by decide +kernel, by decide +kernel, by decide +kernel⟩
theorem kw_8_46 : (Jvm.Cond.instanceMethod ({ cls := "ParishUnionModel", name := "count", desc := "(I)I" } : Jvm.MethodName)) ∈ gT := gT_of (tb_8 _ (List.mem_of_getElem? (i := 46) rfl)) rfl
theorem kw_8_47 : (Jvm.Cond.selects "ParishUnionModel" ({ cls := "ParishUnionModel", name := "count", desc := "(I)I" } : Jvm.MethodName) ({ cls := "ParishUnionModel", name := "count", desc := "(I)I" } : Jvm.MethodName)) ∈ gT := gT_of (tb_8 _ (List.mem_of_getElem? (i := 47) rfl)) rfl
theorem dL_law_1988 : decode code 1988 = .ok (.pop, 1) := dc_87 (by decide +kernel)
theorem dL_law_1989 : decode code 1989 = .ok (.goto 3, 3) := dc_167 0 3 3 (by decide +kernel)
set_option maxRecDepth 100000 in
set_option maxHeartbeats 4000000 in
theorem law_case_45 {p : Program} {e : Env} {s : State} {m : MethodId} {below : List Frame} {meth : Method} {cd : Code} {l : Launch} {D : va_G} {cA : Nat → ClassId} {b Ln : Nat} {xs : Nat → Int32} (X : gCx p s m #[Value.ref b] meth cd s.heap.size D cA "ParishUnionLaw" code 4) (hr : meth.sig.returnType = ret) (hb : b < s.heap.size ∧ va_X b Ln xs s s.heap) (hLn : Ln ≤ 3584) {sz cs ss : Nat} {M : gM} (L : lwI sz cs ss M) (i : Int) (hi : 0 ≤ i ∧ i + 7 ≤ (Ln : Int)) (kk : ∀ (sz cs ss : Nat) (M1 : gM), lwI sz cs ss M1 → G p l e room_1 s m #[Value.ref b] below meth cd s.heap.size D cA 4 (lw_Z below #[Value.ref b] s) cs ss M1 sz 1992 [(3, gJ i), (2, gA s.heap.size 190), (1, gA s.heap.size 0), (0, .ref b)] []) : G p l e room_1 s m #[Value.ref b] below meth cd s.heap.size D cA 4 (lw_Z below #[Value.ref b] s) cs ss M sz 1969 [(3, gJ i), (2, gA s.heap.size 190), (1, gA s.heap.size 0), (0, .ref b)] [] := by
  obtain ⟨hsz, I, C, W, LA, LB, LK, LR⟩ := L
  have hN := gN_of hsz I
  obtain ⟨ac, hac, rac⟩ : ∃ v : Int, M 1 13 = v ∧ (0 ≤ v ∧ v ≤ 10) := by
    obtain ⟨v, hv, rv⟩ := gRd I (by decide) (gsz hsz (by decide)) rc_1_13.1
    exact ⟨v, hv, by omega⟩
  obtain ⟨ab, hab, rab⟩ : ∃ v : Int, M 191 4 = v ∧ (0 ≤ v ∧ v ≤ 10) := by
    obtain ⟨v, hv, rv⟩ := gRd I (by decide) (gsz hsz (by decide)) (rs_NA (k := 4) (by omega)).1
    exact ⟨v, hv, by omega⟩
  have hRm : cs + 0 ≤ room_1.cells ∧ ss + 0 ≤ room_1.slots := by
    show cs + 0 ≤ 349274 ∧ ss + 0 ≤ 8054428
    have := lwK.room LK
    omega
  obtain ⟨u1, eu1, ru1⟩ : ∃ z : Int, xs (i + 1).toNat = Int32.ofInt z ∧ (-2147483648 ≤ z ∧ z ≤ 2147483647) := ⟨_, gi_of _, gi_rg _⟩
  obtain ⟨u2, eu2, ru2⟩ : ∃ z : Int, xs (i + 2).toNat = Int32.ofInt z ∧ (-2147483648 ≤ z ∧ z ≤ 2147483647) := ⟨_, gi_of _, gi_rg _⟩
  obtain ⟨u3, eu3, ru3⟩ : ∃ z : Int, xs (i + 3).toNat = Int32.ofInt z ∧ (-2147483648 ≤ z ∧ z ≤ 2147483647) := ⟨_, gi_of _, gi_rg _⟩
  obtain ⟨u4, eu4, ru4⟩ : ∃ z : Int, xs (i + 4).toNat = Int32.ofInt z ∧ (-2147483648 ≤ z ∧ z ≤ 2147483647) := ⟨_, gi_of _, gi_rg _⟩
  obtain ⟨u5, eu5, ru5⟩ : ∃ z : Int, xs (i + 5).toNat = Int32.ofInt z ∧ (-2147483648 ≤ z ∧ z ≤ 2147483647) := ⟨_, gi_of _, gi_rg _⟩
  obtain ⟨u6, eu6, ru6⟩ : ∃ z : Int, xs (i + 6).toNat = Int32.ofInt z ∧ (-2147483648 ≤ z ∧ z ≤ 2147483647) := ⟨_, gi_of _, gi_rg _⟩
  refine g_aload_n (n := 1970) X 2 dL_law_1969 rfl rfl rfl ?_
  refine g_aload_n (n := 1971) X 3 dL_law_1970 rfl rfl rfl ?_
  refine g_iload_n (n := 1972) X 0 dL_law_1971 rfl rfl rfl ?_
  refine g_iconst (n := 1973) X dL_law_1972 rfl ?_
  refine g_iadd (n := 1974) (z := i + 1) X dL_law_1973 (by omega) rfl ?_
  refine g_scrld (n := 1975) (z := u1) X hb (by omega) (by omega) (by omega) dL_law_1974 rfl eu1 ?_
  refine g_callVi (n := 1978) (As := [gJ u1]) (rest := []) (cs1 := cs) (ss1 := ss) X (s_X11_count u1 (by omega) hsz I C ) okX11_count kw_6_13 ⟨kw_6_14, kw_6_15⟩ ⟨rfl, rfl⟩ ⟨Nat.le_of_ble_eq_true rfl, Nat.le_of_ble_eq_true rfl⟩ rfl (by decide) (gsz hsz (by decide)) lay_0 rfl rfl (Nat.le_of_ble_eq_true rfl) hRm rfl rfl dL_law_1975 rfl (fun v1 M2 P3 => ?_)
  obtain ⟨rfl, rv1⟩ := P3
  refine g_pop (n := 1979) X dL_law_1978 rfl rfl ?_
  refine g_aload_n (n := 1980) X 1 dL_law_1979 rfl rfl rfl ?_
  refine g_aload_n (n := 1981) X 3 dL_law_1980 rfl rfl rfl ?_
  refine g_iload_n (n := 1982) X 0 dL_law_1981 rfl rfl rfl ?_
  refine g_iconst (n := 1983) X dL_law_1982 rfl ?_
  refine g_iadd (n := 1984) (z := i + 1) X dL_law_1983 (by omega) rfl ?_
  refine g_scrld (n := 1985) (z := u1) X hb (by omega) (by omega) (by omega) dL_law_1984 rfl eu1 ?_
  refine g_callVi (n := 1988) (As := [gJ u1]) (rest := []) (cs1 := cs) (ss1 := ss) X (s_X12_count u1 (by omega) hsz I C ) okX12_count kw_8_45 ⟨kw_8_46, kw_8_47⟩ ⟨rfl, rfl⟩ ⟨Nat.le_of_ble_eq_true rfl, Nat.le_of_ble_eq_true rfl⟩ rfl (by decide) (gsz hsz (by decide)) lay_190 rfl rfl (Nat.le_of_ble_eq_true rfl) hRm rfl rfl dL_law_1985 rfl (fun v4 M5 P6 => ?_)
  obtain ⟨rfl, rv4⟩ := P6
  refine g_pop (n := 1989) X dL_law_1988 rfl rfl ?_
  refine g_goto (tgt := 1992) X dL_law_1989 (by decide) ?_
  exact kk _ _ _ _ ⟨hsz, I, C, W, LA, LB, (lwK.fr LK (gFr.rf : gFr 0 M M) rfl), ⟨LR.1, LR.2.1, LR.2.2.1, LR.2.2.2.1, LR.2.2.2.2.1, LR.2.2.2.2.2.1, LR.2.2.2.2.2.2.1, LR.2.2.2.2.2.2.2.1, LR.2.2.2.2.2.2.2.2.1, LR.2.2.2.2.2.2.2.2.2.1, LR.2.2.2.2.2.2.2.2.2.2.1, LR.2.2.2.2.2.2.2.2.2.2.2.1, LR.2.2.2.2.2.2.2.2.2.2.2.2⟩⟩
