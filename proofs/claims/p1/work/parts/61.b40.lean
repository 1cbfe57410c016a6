theorem dL_law_1854 : decode code 1854 = .ok (.aload_n 1, 1) := by decide +kernel
theorem dL_law_1855 : decode code 1855 = .ok (.aload_n 0, 1) := by decide +kernel
theorem dL_law_1856 : decode code 1856 = .ok (.iload_n 3, 1) := by decide +kernel
theorem dL_law_1857 : decode code 1857 = .ok (.iconst 1, 1) := by decide +kernel
theorem dL_law_1858 : decode code 1858 = .ok (.iadd, 1) := by decide +kernel
theorem dL_law_1859 : decode code 1859 = .ok (.iaload, 1) := by decide +kernel
theorem dL_law_1860 : decode code 1860 = .ok (.aload_n 0, 1) := by decide +kernel
theorem dL_law_1861 : decode code 1861 = .ok (.iload_n 3, 1) := by decide +kernel
theorem dL_law_1862 : decode code 1862 = .ok (.iconst 2, 1) := by decide +kernel
theorem dL_law_1863 : decode code 1863 = .ok (.iadd, 1) := by decide +kernel
theorem dL_law_1864 : decode code 1864 = .ok (.iaload, 1) := by decide +kernel
theorem dL_law_1865 : decode code 1865 = .ok (.invokevirtual 187, 3) := by decide +kernel
theorem kw_5_192 : (Jvm.Cond.methodLink "ParishUnionLaw" (187 : Nat) ({ cls := "ParishUnion", name := "tried", desc := "(II)I" } : Jvm.MethodName)) ∈ gT := gT_of (tb_5 _ (List.mem_of_getElem? (i := 192) rfl)) rfl
theorem kw_5_195 : (Jvm.Cond.code ({ cls := "ParishUnion", name := "tried", desc := "(II)I" } : Jvm.MethodName) prog_1_method_42_code (6 : Nat) (Option.some Jvm.ClassFile.FieldType.int)) ∈ gT := gT_of (tb_5 _ (List.mem_of_getElem? (i := 195) rfl)) rfl
theorem okX11_tried : gQok yX11_tried cX11_tried 6 (Option.some Jvm.ClassFile.FieldType.int) 2 := ⟨kw_5_195, kw_1_1, by decide +kernel, by decide +kernel, by decide +kernel⟩
theorem kw_5_193 : (Jvm.Cond.instanceMethod ({ cls := "ParishUnion", name := "tried", desc := "(II)I" } : Jvm.MethodName)) ∈ gT := gT_of (tb_5 _ (List.mem_of_getElem? (i := 193) rfl)) rfl
theorem kw_5_194 : (Jvm.Cond.selects "ParishUnion" ({ cls := "ParishUnion", name := "tried", desc := "(II)I" } : Jvm.MethodName) ({ cls := "ParishUnion", name := "tried", desc := "(II)I" } : Jvm.MethodName)) ∈ gT := gT_of (tb_5 _ (List.mem_of_getElem? (i := 194) rfl)) rfl
theorem dL_law_1868 : decode code 1868 = .ok (.aload_n 2, 1) := by decide +kernel
theorem dL_law_1869 : decode code 1869 = .ok (.aload_n 0, 1) := by decide +kernel
theorem dL_law_1870 : decode code 1870 = .ok (.iload_n 3, 1) := by decide +kernel
theorem dL_law_1871 : decode code 1871 = .ok (.iconst 1, 1) := by decide +kernel
theorem dL_law_1872 : decode code 1872 = .ok (.iadd, 1) := by decide +kernel
theorem dL_law_1873 : decode code 1873 = .ok (.iaload, 1) := by decide +kernel
theorem dL_law_1874 : decode code 1874 = .ok (.aload_n 0, 1) := by decide +kernel
theorem dL_law_1875 : decode code 1875 = .ok (.iload_n 3, 1) := by decide +kernel
theorem dL_law_1876 : decode code 1876 = .ok (.iconst 2, 1) := by decide +kernel
theorem dL_law_1877 : decode code 1877 = .ok (.iadd, 1) := by decide +kernel
theorem dL_law_1878 : decode code 1878 = .ok (.iaload, 1) := by decide +kernel
theorem dL_law_1879 : decode code 1879 = .ok (.invokevirtual 190, 3) := by decide +kernel
theorem kw_8_25 : (Jvm.Cond.methodLink "ParishUnionLaw" (190 : Nat) ({ cls := "ParishUnionModel", name := "tried", desc := "(II)I" } : Jvm.MethodName)) ∈ gT := gT_of (tb_8 _ (List.mem_of_getElem? (i := 25) rfl)) rfl
theorem kw_8_28 : (Jvm.Cond.code ({ cls := "ParishUnionModel", name := "tried", desc := "(II)I" } : Jvm.MethodName) prog_14_method_102_code (9 : Nat) (Option.some Jvm.ClassFile.FieldType.int)) ∈ gT := gT_of (tb_8 _ (List.mem_of_getElem? (i := 28) rfl)) rfl
theorem okX12_tried : gQok yX12_tried cX12_tried 9 (Option.some Jvm.ClassFile.FieldType.int) 2 := ⟨kw_8_28, kw_1_13, by decide +kernel, by decide +kernel, by decide +kernel⟩
theorem kw_8_26 : (Jvm.Cond.instanceMethod ({ cls := "ParishUnionModel", name := "tried", desc := "(II)I" } : Jvm.MethodName)) ∈ gT := gT_of (tb_8 _ (List.mem_of_getElem? (i := 26) rfl)) rfl
theorem kw_8_27 : (Jvm.Cond.selects "ParishUnionModel" ({ cls := "ParishUnionModel", name := "tried", desc := "(II)I" } : Jvm.MethodName) ({ cls := "ParishUnionModel", name := "tried", desc := "(II)I" } : Jvm.MethodName)) ∈ gT := gT_of (tb_8 _ (List.mem_of_getElem? (i := 27) rfl)) rfl
theorem dL_law_1882 : decode code 1882 = .ok (.if_icmp .eq 110, 3) := by decide +kernel
set_option maxRecDepth 100000 in
set_option maxHeartbeats 4000000 in
theorem law_case_40 {p : Program} {e : Env} {s : State} {m : MethodId} {below : List Frame} {meth : Method} {c : Code} {l : Launch} {D : va_G} {cA : Nat → ClassId} {b : Nat} {xs : Nat → Int32} (X : gCx p s m #[Value.ref b] meth c s.heap.size D cA "ParishUnionLaw" code 4) (hr : meth.sig.returnType = ret) (hb : b < s.heap.size ∧ va_X b 7 xs s s.heap) {M : gM} (hFr : gFr M) : G p l e room_1 s m #[Value.ref b] below meth c s.heap.size D cA 4 (lw_Z below #[Value.ref b] s) 206 87467 M 206 1854 [(3, gJ 0), (2, gA s.heap.size 190), (1, gA s.heap.size 0), (0, .ref b)] [] := by
  have rents := gFr_rents hFr
  have way := gFr_way hFr
  have beds := gFr_beds hFr
  have frost0 := gFr_frost0 hFr
  have rows0 := gFr_rows0 hFr
  have rooms0 := gFr_rooms0 hFr
  have tape0 := gFr_tape0 hFr
  have car0 := gFr_car0 hFr
  have hS := gFr_hS hFr
  obtain ⟨v0, e0, r0⟩ : ∃ z : Int, xs 0 = Int32.ofInt z ∧ -2147483648 ≤ z ∧ z ≤ 2147483647 := ⟨_, gi_of _, gi_rg _⟩
  obtain ⟨v1, e1, r1⟩ : ∃ z : Int, xs 1 = Int32.ofInt z ∧ -2147483648 ≤ z ∧ z ≤ 2147483647 := ⟨_, gi_of _, gi_rg _⟩
  obtain ⟨v2, e2, r2⟩ : ∃ z : Int, xs 2 = Int32.ofInt z ∧ -2147483648 ≤ z ∧ z ≤ 2147483647 := ⟨_, gi_of _, gi_rg _⟩
  obtain ⟨v3, e3, r3⟩ : ∃ z : Int, xs 3 = Int32.ofInt z ∧ -2147483648 ≤ z ∧ z ≤ 2147483647 := ⟨_, gi_of _, gi_rg _⟩
  obtain ⟨v4, e4, r4⟩ : ∃ z : Int, xs 4 = Int32.ofInt z ∧ -2147483648 ≤ z ∧ z ≤ 2147483647 := ⟨_, gi_of _, gi_rg _⟩
  obtain ⟨v5, e5, r5⟩ : ∃ z : Int, xs 5 = Int32.ofInt z ∧ -2147483648 ≤ z ∧ z ≤ 2147483647 := ⟨_, gi_of _, gi_rg _⟩
  obtain ⟨v6, e6, r6⟩ : ∃ z : Int, xs 6 = Int32.ofInt z ∧ -2147483648 ≤ z ∧ z ≤ 2147483647 := ⟨_, gi_of _, gi_rg _⟩
  refine g_aload_n (n := 1855) X 2 dL_law_1854 rfl rfl rfl ?_
  refine g_aload_n (n := 1856) X 3 dL_law_1855 rfl rfl rfl ?_
  refine g_iload_n (n := 1857) X 0 dL_law_1856 rfl rfl rfl ?_
  refine g_iconst (n := 1858) X dL_law_1857 rfl ?_
  refine g_iadd (n := 1859) (z := 1) X dL_law_1858 rfl rfl ?_
  refine g_scrld (n := 1860) (z := v1) X hb (by omega) (by omega) (by omega) dL_law_1859 rfl e1 ?_
  refine g_aload_n (n := 1861) X 3 dL_law_1860 rfl rfl rfl ?_
  refine g_iload_n (n := 1862) X 0 dL_law_1861 rfl rfl rfl ?_
  refine g_iconst (n := 1863) X dL_law_1862 rfl ?_
  refine g_iadd (n := 1864) (z := 2) X dL_law_1863 rfl rfl ?_
  refine g_scrld (n := 1865) (z := v2) X hb (by omega) (by omega) (by omega) dL_law_1864 rfl e2 ?_
  refine g_callVi (n := 1868) (As := [gJ v1, gJ v2]) (rest := []) (cs1 := 206) (ss1 := 87467) X (c_X11_tried v1 v2 (by omega) (by omega) (by omega) (gFr_0_0 hFr) (gFr_1_6 hFr) (gFr_15_2 hFr) rows0) okX11_tried kw_5_192 ⟨kw_5_193, kw_5_194⟩ ⟨rfl, rfl⟩ ⟨Nat.le_of_ble_eq_true rfl, Nat.le_of_ble_eq_true rfl⟩ rfl (by omega) (by omega) lay_0 rfl rfl (Nat.le_of_ble_eq_true rfl) ⟨Nat.le_of_ble_eq_true rfl, Nat.le_of_ble_eq_true rfl⟩ rfl rfl dL_law_1865 rfl (fun z1 M2 P3 => ?_)
  obtain ⟨P3, F4⟩ := P3
  refine g_aload_n (n := 1869) X 1 dL_law_1868 rfl rfl rfl ?_
  refine g_aload_n (n := 1870) X 3 dL_law_1869 rfl rfl rfl ?_
  refine g_iload_n (n := 1871) X 0 dL_law_1870 rfl rfl rfl ?_
  refine g_iconst (n := 1872) X dL_law_1871 rfl ?_
  refine g_iadd (n := 1873) (z := 1) X dL_law_1872 rfl rfl ?_
  refine g_scrld (n := 1874) (z := v1) X hb (by omega) (by omega) (by omega) dL_law_1873 rfl e1 ?_
  refine g_aload_n (n := 1875) X 3 dL_law_1874 rfl rfl rfl ?_
  refine g_iload_n (n := 1876) X 0 dL_law_1875 rfl rfl rfl ?_
  refine g_iconst (n := 1877) X dL_law_1876 rfl ?_
  refine g_iadd (n := 1878) (z := 2) X dL_law_1877 rfl rfl ?_
  refine g_scrld (n := 1879) (z := v2) X hb (by omega) (by omega) (by omega) dL_law_1878 rfl e2 ?_
  refine g_callVi (n := 1882) (As := [gJ v1, gJ v2]) (rest := [gJ z1]) (cs1 := 206) (ss1 := 87467) X (c_X12_tried v1 v2 (by omega) (by omega) (by omega) ((congrFun (F4 190) _).trans (gFr_190_1 hFr)) (fun i h0 h1 => (congrFun ((F4 191).trans rfl) i).trans (hS i h0 h1))) okX12_tried kw_8_25 ⟨kw_8_26, kw_8_27⟩ ⟨rfl, rfl⟩ ⟨Nat.le_of_ble_eq_true rfl, Nat.le_of_ble_eq_true rfl⟩ rfl (by omega) (by omega) lay_190 rfl rfl (Nat.le_of_ble_eq_true rfl) ⟨Nat.le_of_ble_eq_true rfl, Nat.le_of_ble_eq_true rfl⟩ rfl rfl dL_law_1879 rfl (fun z5 M6 P7 => ?_)
  obtain ⟨P7, F8⟩ := P7
  refine g_icmp_eq (n := 1885) (tgt := 1992) X dL_law_1882 (by decide) (by omega) (by omega) rfl (fun c9 => ?_) (fun c9 => by exfalso; omega)
  exact law_tail X hr hb (by omega) (by omega)
theorem dL_law_1887 : decode code 1887 = .ok (.aload_n 1, 1) := by decide +kernel
theorem dL_law_1888 : decode code 1888 = .ok (.aload_n 0, 1) := by decide +kernel
theorem dL_law_1889 : decode code 1889 = .ok (.iload_n 3, 1) := by decide +kernel
theorem dL_law_1890 : decode code 1890 = .ok (.iconst 1, 1) := by decide +kernel
theorem dL_law_1891 : decode code 1891 = .ok (.iadd, 1) := by decide +kernel
theorem dL_law_1892 : decode code 1892 = .ok (.iaload, 1) := by decide +kernel
theorem dL_law_1893 : decode code 1893 = .ok (.aload_n 0, 1) := by decide +kernel
theorem dL_law_1894 : decode code 1894 = .ok (.iload_n 3, 1) := by decide +kernel
theorem dL_law_1895 : decode code 1895 = .ok (.iconst 2, 1) := by decide +kernel
theorem dL_law_1896 : decode code 1896 = .ok (.iadd, 1) := by decide +kernel
theorem dL_law_1897 : decode code 1897 = .ok (.iaload, 1) := by decide +kernel
theorem dL_law_1898 : decode code 1898 = .ok (.invokevirtual 191, 3) := by decide +kernel
theorem kw_5_200 : (Jvm.Cond.methodLink "ParishUnionLaw" (191 : Nat) ({ cls := "ParishUnion", name := "told", desc := "(II)I" } : Jvm.MethodName)) ∈ gT := gT_of (tb_5 _ (List.mem_of_getElem? (i := 200) rfl)) rfl
theorem kw_5_203 : (Jvm.Cond.code ({ cls := "ParishUnion", name := "told", desc := "(II)I" } : Jvm.MethodName) prog_1_method_43_code (4 : Nat) (Option.some Jvm.ClassFile.FieldType.int)) ∈ gT := gT_of (tb_5 _ (List.mem_of_getElem? (i := 203) rfl)) rfl
theorem okX11_told : gQok yX11_told cX11_told 4 (Option.some Jvm.ClassFile.FieldType.int) 2 := ⟨kw_5_203, kw_1_1, by decide +kernel, by decide +kernel, by decide +kernel⟩
theorem kw_5_201 : (Jvm.Cond.instanceMethod ({ cls := "ParishUnion", name := "told", desc := "(II)I" } : Jvm.MethodName)) ∈ gT := gT_of (tb_5 _ (List.mem_of_getElem? (i := 201) rfl)) rfl
theorem kw_5_202 : (Jvm.Cond.selects "ParishUnion" ({ cls := "ParishUnion", name := "told", desc := "(II)I" } : Jvm.MethodName) ({ cls := "ParishUnion", name := "told", desc := "(II)I" } : Jvm.MethodName)) ∈ gT := gT_of (tb_5 _ (List.mem_of_getElem? (i := 202) rfl)) rfl
theorem dL_law_1901 : decode code 1901 = .ok (.aload_n 2, 1) := by decide +kernel
theorem dL_law_1902 : decode code 1902 = .ok (.aload_n 0, 1) := by decide +kernel
theorem dL_law_1903 : decode code 1903 = .ok (.iload_n 3, 1) := by decide +kernel
theorem dL_law_1904 : decode code 1904 = .ok (.iconst 1, 1) := by decide +kernel
theorem dL_law_1905 : decode code 1905 = .ok (.iadd, 1) := by decide +kernel
theorem dL_law_1906 : decode code 1906 = .ok (.iaload, 1) := by decide +kernel
theorem dL_law_1907 : decode code 1907 = .ok (.aload_n 0, 1) := by decide +kernel
theorem dL_law_1908 : decode code 1908 = .ok (.iload_n 3, 1) := by decide +kernel
theorem dL_law_1909 : decode code 1909 = .ok (.iconst 2, 1) := by decide +kernel
theorem dL_law_1910 : decode code 1910 = .ok (.iadd, 1) := by decide +kernel
theorem dL_law_1911 : decode code 1911 = .ok (.iaload, 1) := by decide +kernel
theorem dL_law_1912 : decode code 1912 = .ok (.invokevirtual 194, 3) := by decide +kernel
theorem kw_8_29 : (Jvm.Cond.methodLink "ParishUnionLaw" (194 : Nat) ({ cls := "ParishUnionModel", name := "told", desc := "(II)I" } : Jvm.MethodName)) ∈ gT := gT_of (tb_8 _ (List.mem_of_getElem? (i := 29) rfl)) rfl
theorem kw_8_32 : (Jvm.Cond.code ({ cls := "ParishUnionModel", name := "told", desc := "(II)I" } : Jvm.MethodName) prog_14_method_103_code (4 : Nat) (Option.some Jvm.ClassFile.FieldType.int)) ∈ gT := gT_of (tb_8 _ (List.mem_of_getElem? (i := 32) rfl)) rfl
theorem okX12_told : gQok yX12_told cX12_told 4 (Option.some Jvm.ClassFile.FieldType.int) 2 := ⟨kw_8_32, kw_1_13, by decide +kernel, by decide +kernel, by decide +kernel⟩
theorem kw_8_30 : (Jvm.Cond.instanceMethod ({ cls := "ParishUnionModel", name := "told", desc := "(II)I" } : Jvm.MethodName)) ∈ gT := gT_of (tb_8 _ (List.mem_of_getElem? (i := 30) rfl)) rfl
theorem kw_8_31 : (Jvm.Cond.selects "ParishUnionModel" ({ cls := "ParishUnionModel", name := "told", desc := "(II)I" } : Jvm.MethodName) ({ cls := "ParishUnionModel", name := "told", desc := "(II)I" } : Jvm.MethodName)) ∈ gT := gT_of (tb_8 _ (List.mem_of_getElem? (i := 31) rfl)) rfl
theorem dL_law_1915 : decode code 1915 = .ok (.if_icmp .eq 77, 3) := by decide +kernel
set_option maxRecDepth 100000 in
set_option maxHeartbeats 4000000 in
theorem law_case_41 {p : Program} {e : Env} {s : State} {m : MethodId} {below : List Frame} {meth : Method} {c : Code} {l : Launch} {D : va_G} {cA : Nat → ClassId} {b : Nat} {xs : Nat → Int32} (X : gCx p s m #[Value.ref b] meth c s.heap.size D cA "ParishUnionLaw" code 4) (hr : meth.sig.returnType = ret) (hb : b < s.heap.size ∧ va_X b 7 xs s s.heap) {M : gM} (hFr : gFr M) : G p l e room_1 s m #[Value.ref b] below meth c s.heap.size D cA 4 (lw_Z below #[Value.ref b] s) 206 87467 M 206 1887 [(3, gJ 0), (2, gA s.heap.size 190), (1, gA s.heap.size 0), (0, .ref b)] [] := by
  have rents := gFr_rents hFr
  have way := gFr_way hFr
  have beds := gFr_beds hFr
  have frost0 := gFr_frost0 hFr
  have rows0 := gFr_rows0 hFr
  have rooms0 := gFr_rooms0 hFr
  have tape0 := gFr_tape0 hFr
  have car0 := gFr_car0 hFr
  have hS := gFr_hS hFr
  obtain ⟨v0, e0, r0⟩ : ∃ z : Int, xs 0 = Int32.ofInt z ∧ -2147483648 ≤ z ∧ z ≤ 2147483647 := ⟨_, gi_of _, gi_rg _⟩
  obtain ⟨v1, e1, r1⟩ : ∃ z : Int, xs 1 = Int32.ofInt z ∧ -2147483648 ≤ z ∧ z ≤ 2147483647 := ⟨_, gi_of _, gi_rg _⟩
  obtain ⟨v2, e2, r2⟩ : ∃ z : Int, xs 2 = Int32.ofInt z ∧ -2147483648 ≤ z ∧ z ≤ 2147483647 := ⟨_, gi_of _, gi_rg _⟩
  obtain ⟨v3, e3, r3⟩ : ∃ z : Int, xs 3 = Int32.ofInt z ∧ -2147483648 ≤ z ∧ z ≤ 2147483647 := ⟨_, gi_of _, gi_rg _⟩
  obtain ⟨v4, e4, r4⟩ : ∃ z : Int, xs 4 = Int32.ofInt z ∧ -2147483648 ≤ z ∧ z ≤ 2147483647 := ⟨_, gi_of _, gi_rg _⟩
  obtain ⟨v5, e5, r5⟩ : ∃ z : Int, xs 5 = Int32.ofInt z ∧ -2147483648 ≤ z ∧ z ≤ 2147483647 := ⟨_, gi_of _, gi_rg _⟩
  obtain ⟨v6, e6, r6⟩ : ∃ z : Int, xs 6 = Int32.ofInt z ∧ -2147483648 ≤ z ∧ z ≤ 2147483647 := ⟨_, gi_of _, gi_rg _⟩
  refine g_aload_n (n := 1888) X 2 dL_law_1887 rfl rfl rfl ?_
  refine g_aload_n (n := 1889) X 3 dL_law_1888 rfl rfl rfl ?_
  refine g_iload_n (n := 1890) X 0 dL_law_1889 rfl rfl rfl ?_
  refine g_iconst (n := 1891) X dL_law_1890 rfl ?_
  refine g_iadd (n := 1892) (z := 1) X dL_law_1891 rfl rfl ?_
  refine g_scrld (n := 1893) (z := v1) X hb (by omega) (by omega) (by omega) dL_law_1892 rfl e1 ?_
  refine g_aload_n (n := 1894) X 3 dL_law_1893 rfl rfl rfl ?_
  refine g_iload_n (n := 1895) X 0 dL_law_1894 rfl rfl rfl ?_
  refine g_iconst (n := 1896) X dL_law_1895 rfl ?_
  refine g_iadd (n := 1897) (z := 2) X dL_law_1896 rfl rfl ?_
  refine g_scrld (n := 1898) (z := v2) X hb (by omega) (by omega) (by omega) dL_law_1897 rfl e2 ?_
  refine g_callVi (n := 1901) (As := [gJ v1, gJ v2]) (rest := []) (cs1 := 206) (ss1 := 87467) X (c_X11_told v1 v2 (by omega) (by omega) (by omega) (gFr_0_0 hFr) (gFr_1_10 hFr)) okX11_told kw_5_200 ⟨kw_5_201, kw_5_202⟩ ⟨rfl, rfl⟩ ⟨Nat.le_of_ble_eq_true rfl, Nat.le_of_ble_eq_true rfl⟩ rfl (by omega) (by omega) lay_0 rfl rfl (Nat.le_of_ble_eq_true rfl) ⟨Nat.le_of_ble_eq_true rfl, Nat.le_of_ble_eq_true rfl⟩ rfl rfl dL_law_1898 rfl (fun z1 M2 P3 => ?_)
  obtain ⟨P3, F4⟩ := P3
  refine g_aload_n (n := 1902) X 1 dL_law_1901 rfl rfl rfl ?_
  refine g_aload_n (n := 1903) X 3 dL_law_1902 rfl rfl rfl ?_
  refine g_iload_n (n := 1904) X 0 dL_law_1903 rfl rfl rfl ?_
  refine g_iconst (n := 1905) X dL_law_1904 rfl ?_
  refine g_iadd (n := 1906) (z := 1) X dL_law_1905 rfl rfl ?_
  refine g_scrld (n := 1907) (z := v1) X hb (by omega) (by omega) (by omega) dL_law_1906 rfl e1 ?_
  refine g_aload_n (n := 1908) X 3 dL_law_1907 rfl rfl rfl ?_
  refine g_iload_n (n := 1909) X 0 dL_law_1908 rfl rfl rfl ?_
  refine g_iconst (n := 1910) X dL_law_1909 rfl ?_
  refine g_iadd (n := 1911) (z := 2) X dL_law_1910 rfl rfl ?_
  refine g_scrld (n := 1912) (z := v2) X hb (by omega) (by omega) (by omega) dL_law_1911 rfl e2 ?_
  refine g_callVi (n := 1915) (As := [gJ v1, gJ v2]) (rest := [gJ z1]) (cs1 := 206) (ss1 := 87467) X (c_X12_told v1 v2 (by omega) (by omega) (by omega) ((congrFun (F4 190) _).trans (gFr_190_1 hFr)) ((congrFun (F4 191) _).trans ((hS 1 (by omega) (by omega)).trans (by decide)))) okX12_told kw_8_29 ⟨kw_8_30, kw_8_31⟩ ⟨rfl, rfl⟩ ⟨Nat.le_of_ble_eq_true rfl, Nat.le_of_ble_eq_true rfl⟩ rfl (by omega) (by omega) lay_190 rfl rfl (Nat.le_of_ble_eq_true rfl) ⟨Nat.le_of_ble_eq_true rfl, Nat.le_of_ble_eq_true rfl⟩ rfl rfl dL_law_1912 rfl (fun z5 M6 P7 => ?_)
  obtain ⟨P7, F8⟩ := P7
  refine g_icmp_eq (n := 1918) (tgt := 1992) X dL_law_1915 (by decide) (by omega) (by omega) rfl (fun c9 => ?_) (fun c9 => by exfalso; omega)
  exact law_tail X hr hb (by omega) (by omega)
theorem dL_law_1920 : decode code 1920 = .ok (.aload_n 1, 1) := by decide +kernel
theorem dL_law_1921 : decode code 1921 = .ok (.aload_n 0, 1) := by decide +kernel
theorem dL_law_1922 : decode code 1922 = .ok (.iload_n 3, 1) := by decide +kernel
theorem dL_law_1923 : decode code 1923 = .ok (.iconst 1, 1) := by decide +kernel
theorem dL_law_1924 : decode code 1924 = .ok (.iadd, 1) := by decide +kernel
theorem dL_law_1925 : decode code 1925 = .ok (.iaload, 1) := by decide +kernel
theorem dL_law_1926 : decode code 1926 = .ok (.invokevirtual 195, 3) := by decide +kernel
theorem kw_5_204 : (Jvm.Cond.methodLink "ParishUnionLaw" (195 : Nat) ({ cls := "ParishUnion", name := "check", desc := "(I)I" } : Jvm.MethodName)) ∈ gT := gT_of (tb_5 _ (List.mem_of_getElem? (i := 204) rfl)) rfl
theorem kw_5_207 : (Jvm.Cond.code ({ cls := "ParishUnion", name := "check", desc := "(I)I" } : Jvm.MethodName) prog_1_method_44_code (3 : Nat) (Option.some Jvm.ClassFile.FieldType.int)) ∈ gT := gT_of (tb_5 _ (List.mem_of_getElem? (i := 207) rfl)) rfl
theorem okX11_check : gQok yX11_check cX11_check 3 (Option.some Jvm.ClassFile.FieldType.int) 1 := ⟨kw_5_207, kw_1_1, by decide +kernel, by decide +kernel, by decide +kernel⟩
theorem kw_5_205 : (Jvm.Cond.instanceMethod ({ cls := "ParishUnion", name := "check", desc := "(I)I" } : Jvm.MethodName)) ∈ gT := gT_of (tb_5 _ (List.mem_of_getElem? (i := 205) rfl)) rfl
theorem kw_5_206 : (Jvm.Cond.selects "ParishUnion" ({ cls := "ParishUnion", name := "check", desc := "(I)I" } : Jvm.MethodName) ({ cls := "ParishUnion", name := "check", desc := "(I)I" } : Jvm.MethodName)) ∈ gT := gT_of (tb_5 _ (List.mem_of_getElem? (i := 206) rfl)) rfl
theorem dL_law_1929 : decode code 1929 = .ok (.aload_n 2, 1) := by decide +kernel
theorem dL_law_1930 : decode code 1930 = .ok (.aload_n 0, 1) := by decide +kernel
theorem dL_law_1931 : decode code 1931 = .ok (.iload_n 3, 1) := by decide +kernel
theorem dL_law_1932 : decode code 1932 = .ok (.iconst 1, 1) := by decide +kernel
theorem dL_law_1933 : decode code 1933 = .ok (.iadd, 1) := by decide +kernel
theorem dL_law_1934 : decode code 1934 = .ok (.iaload, 1) := by decide +kernel
theorem dL_law_1935 : decode code 1935 = .ok (.invokevirtual 198, 3) := by decide +kernel
theorem kw_8_33 : (Jvm.Cond.methodLink "ParishUnionLaw" (198 : Nat) ({ cls := "ParishUnionModel", name := "check", desc := "(I)I" } : Jvm.MethodName)) ∈ gT := gT_of (tb_8 _ (List.mem_of_getElem? (i := 33) rfl)) rfl
theorem kw_8_36 : (Jvm.Cond.code ({ cls := "ParishUnionModel", name := "check", desc := "(I)I" } : Jvm.MethodName) prog_14_method_104_code (3 : Nat) (Option.some Jvm.ClassFile.FieldType.int)) ∈ gT := gT_of (tb_8 _ (List.mem_of_getElem? (i := 36) rfl)) rfl
theorem okX12_check : gQok yX12_check cX12_check 3 (Option.some Jvm.ClassFile.FieldType.int) 1 := ⟨kw_8_36, kw_1_13, by decide +kernel, by decide +kernel, by decide +kernel⟩
theorem kw_8_34 : (Jvm.Cond.instanceMethod ({ cls := "ParishUnionModel", name := "check", desc := "(I)I" } : Jvm.MethodName)) ∈ gT := gT_of (tb_8 _ (List.mem_of_getElem? (i := 34) rfl)) rfl
theorem kw_8_35 : (Jvm.Cond.selects "ParishUnionModel" ({ cls := "ParishUnionModel", name := "check", desc := "(I)I" } : Jvm.MethodName) ({ cls := "ParishUnionModel", name := "check", desc := "(I)I" } : Jvm.MethodName)) ∈ gT := gT_of (tb_8 _ (List.mem_of_getElem? (i := 35) rfl)) rfl
theorem dL_law_1938 : decode code 1938 = .ok (.if_icmp .eq 54, 3) := by decide +kernel
set_option maxRecDepth 100000 in
set_option maxHeartbeats 4000000 in
theorem law_case_42 {p : Program} {e : Env} {s : State} {m : MethodId} {below : List Frame} {meth : Method} {c : Code} {l : Launch} {D : va_G} {cA : Nat → ClassId} {b : Nat} {xs : Nat → Int32} (X : gCx p s m #[Value.ref b] meth c s.heap.size D cA "ParishUnionLaw" code 4) (hr : meth.sig.returnType = ret) (hb : b < s.heap.size ∧ va_X b 7 xs s s.heap) {M : gM} (hFr : gFr M) : G p l e room_1 s m #[Value.ref b] below meth c s.heap.size D cA 4 (lw_Z below #[Value.ref b] s) 206 87467 M 206 1920 [(3, gJ 0), (2, gA s.heap.size 190), (1, gA s.heap.size 0), (0, .ref b)] [] := by
  have rents := gFr_rents hFr
  have way := gFr_way hFr
  have beds := gFr_beds hFr
  have frost0 := gFr_frost0 hFr
  have rows0 := gFr_rows0 hFr
  have rooms0 := gFr_rooms0 hFr
  have tape0 := gFr_tape0 hFr
  have car0 := gFr_car0 hFr
  have hS := gFr_hS hFr
  obtain ⟨v0, e0, r0⟩ : ∃ z : Int, xs 0 = Int32.ofInt z ∧ -2147483648 ≤ z ∧ z ≤ 2147483647 := ⟨_, gi_of _, gi_rg _⟩
  obtain ⟨v1, e1, r1⟩ : ∃ z : Int, xs 1 = Int32.ofInt z ∧ -2147483648 ≤ z ∧ z ≤ 2147483647 := ⟨_, gi_of _, gi_rg _⟩
  obtain ⟨v2, e2, r2⟩ : ∃ z : Int, xs 2 = Int32.ofInt z ∧ -2147483648 ≤ z ∧ z ≤ 2147483647 := ⟨_, gi_of _, gi_rg _⟩
  obtain ⟨v3, e3, r3⟩ : ∃ z : Int, xs 3 = Int32.ofInt z ∧ -2147483648 ≤ z ∧ z ≤ 2147483647 := ⟨_, gi_of _, gi_rg _⟩
  obtain ⟨v4, e4, r4⟩ : ∃ z : Int, xs 4 = Int32.ofInt z ∧ -2147483648 ≤ z ∧ z ≤ 2147483647 := ⟨_, gi_of _, gi_rg _⟩
  obtain ⟨v5, e5, r5⟩ : ∃ z : Int, xs 5 = Int32.ofInt z ∧ -2147483648 ≤ z ∧ z ≤ 2147483647 := ⟨_, gi_of _, gi_rg _⟩
  obtain ⟨v6, e6, r6⟩ : ∃ z : Int, xs 6 = Int32.ofInt z ∧ -2147483648 ≤ z ∧ z ≤ 2147483647 := ⟨_, gi_of _, gi_rg _⟩
  refine g_aload_n (n := 1921) X 2 dL_law_1920 rfl rfl rfl ?_
  refine g_aload_n (n := 1922) X 3 dL_law_1921 rfl rfl rfl ?_
  refine g_iload_n (n := 1923) X 0 dL_law_1922 rfl rfl rfl ?_
  refine g_iconst (n := 1924) X dL_law_1923 rfl ?_
  refine g_iadd (n := 1925) (z := 1) X dL_law_1924 rfl rfl ?_
  refine g_scrld (n := 1926) (z := v1) X hb (by omega) (by omega) (by omega) dL_law_1925 rfl e1 ?_
  refine g_callVi (n := 1929) (As := [gJ v1]) (rest := []) (cs1 := 206) (ss1 := 87467) X (c_X11_check v1 (by omega) (by omega) (gFr_0_0 hFr) (gFr_1_15 hFr)) okX11_check kw_5_204 ⟨kw_5_205, kw_5_206⟩ ⟨rfl, rfl⟩ ⟨Nat.le_of_ble_eq_true rfl, Nat.le_of_ble_eq_true rfl⟩ rfl (by omega) (by omega) lay_0 rfl rfl (Nat.le_of_ble_eq_true rfl) ⟨Nat.le_of_ble_eq_true rfl, Nat.le_of_ble_eq_true rfl⟩ rfl rfl dL_law_1926 rfl (fun z1 M2 P3 => ?_)
  obtain ⟨P3, F4⟩ := P3
  refine g_aload_n (n := 1930) X 1 dL_law_1929 rfl rfl rfl ?_
  refine g_aload_n (n := 1931) X 3 dL_law_1930 rfl rfl rfl ?_
  refine g_iload_n (n := 1932) X 0 dL_law_1931 rfl rfl rfl ?_
  refine g_iconst (n := 1933) X dL_law_1932 rfl ?_
  refine g_iadd (n := 1934) (z := 1) X dL_law_1933 rfl rfl ?_
  refine g_scrld (n := 1935) (z := v1) X hb (by omega) (by omega) (by omega) dL_law_1934 rfl e1 ?_
  refine g_callVi (n := 1938) (As := [gJ v1]) (rest := [gJ z1]) (cs1 := 206) (ss1 := 87467) X (c_X12_check v1 (by omega) (by omega) ((congrFun (F4 190) _).trans (gFr_190_1 hFr)) ((congrFun (F4 191) _).trans ((hS 0 (by omega) (by omega)).trans (by decide)))) okX12_check kw_8_33 ⟨kw_8_34, kw_8_35⟩ ⟨rfl, rfl⟩ ⟨Nat.le_of_ble_eq_true rfl, Nat.le_of_ble_eq_true rfl⟩ rfl (by omega) (by omega) lay_190 rfl rfl (Nat.le_of_ble_eq_true rfl) ⟨Nat.le_of_ble_eq_true rfl, Nat.le_of_ble_eq_true rfl⟩ rfl rfl dL_law_1935 rfl (fun z5 M6 P7 => ?_)
  obtain ⟨P7, F8⟩ := P7
  refine g_icmp_eq (n := 1941) (tgt := 1992) X dL_law_1938 (by decide) (by omega) (by omega) rfl (fun c9 => ?_) (fun c9 => by exfalso; omega)
  exact law_tail X hr hb (by omega) (by omega)
theorem dL_law_1943 : decode code 1943 = .ok (.aload_n 1, 1) := by decide +kernel
theorem dL_law_1944 : decode code 1944 = .ok (.invokevirtual 199, 3) := by decide +kernel
theorem kw_5_208 : (Jvm.Cond.methodLink "ParishUnionLaw" (199 : Nat) ({ cls := "ParishUnion", name := "image", desc := "()I" } : Jvm.MethodName)) ∈ gT := gT_of (tb_5 _ (List.mem_of_getElem? (i := 208) rfl)) rfl
theorem kw_5_211 : (Jvm.Cond.code ({ cls := "ParishUnion", name := "image", desc := "()I" } : Jvm.MethodName) prog_1_method_45_code (1 : Nat) (Option.some Jvm.ClassFile.FieldType.int)) ∈ gT := gT_of (tb_5 _ (List.mem_of_getElem? (i := 211) rfl)) rfl
theorem okX11_image : gQok yX11_image cX11_image 1 (Option.some Jvm.ClassFile.FieldType.int) 0 := ⟨kw_5_211, kw_1_1, by decide +kernel, by decide +kernel, by decide +kernel⟩
theorem kw_5_209 : (Jvm.Cond.instanceMethod ({ cls := "ParishUnion", name := "image", desc := "()I" } : Jvm.MethodName)) ∈ gT := gT_of (tb_5 _ (List.mem_of_getElem? (i := 209) rfl)) rfl
theorem kw_5_210 : (Jvm.Cond.selects "ParishUnion" ({ cls := "ParishUnion", name := "image", desc := "()I" } : Jvm.MethodName) ({ cls := "ParishUnion", name := "image", desc := "()I" } : Jvm.MethodName)) ∈ gT := gT_of (tb_5 _ (List.mem_of_getElem? (i := 210) rfl)) rfl
theorem dL_law_1947 : decode code 1947 = .ok (.aload_n 2, 1) := by decide +kernel
theorem dL_law_1948 : decode code 1948 = .ok (.invokevirtual 202, 3) := by decide +kernel
theorem kw_8_37 : (Jvm.Cond.methodLink "ParishUnionLaw" (202 : Nat) ({ cls := "ParishUnionModel", name := "image", desc := "()I" } : Jvm.MethodName)) ∈ gT := gT_of (tb_8 _ (List.mem_of_getElem? (i := 37) rfl)) rfl
theorem kw_8_40 : (Jvm.Cond.code ({ cls := "ParishUnionModel", name := "image", desc := "()I" } : Jvm.MethodName) prog_14_method_105_code (1 : Nat) (Option.some Jvm.ClassFile.FieldType.int)) ∈ gT := gT_of (tb_8 _ (List.mem_of_getElem? (i := 40) rfl)) rfl
theorem okX12_image : gQok yX12_image cX12_image 1 (Option.some Jvm.ClassFile.FieldType.int) 0 := ⟨kw_8_40, kw_1_13, by decide +kernel, by decide +kernel, by decide +kernel⟩
theorem kw_8_38 : (Jvm.Cond.instanceMethod ({ cls := "ParishUnionModel", name := "image", desc := "()I" } : Jvm.MethodName)) ∈ gT := gT_of (tb_8 _ (List.mem_of_getElem? (i := 38) rfl)) rfl
theorem kw_8_39 : (Jvm.Cond.selects "ParishUnionModel" ({ cls := "ParishUnionModel", name := "image", desc := "()I" } : Jvm.MethodName) ({ cls := "ParishUnionModel", name := "image", desc := "()I" } : Jvm.MethodName)) ∈ gT := gT_of (tb_8 _ (List.mem_of_getElem? (i := 39) rfl)) rfl
theorem dL_law_1951 : decode code 1951 = .ok (.if_icmp .eq 41, 3) := by decide +kernel
set_option maxRecDepth 100000 in
set_option maxHeartbeats 4000000 in
theorem law_case_43 {p : Program} {e : Env} {s : State} {m : MethodId} {below : List Frame} {meth : Method} {c : Code} {l : Launch} {D : va_G} {cA : Nat → ClassId} {b : Nat} {xs : Nat → Int32} (X : gCx p s m #[Value.ref b] meth c s.heap.size D cA "ParishUnionLaw" code 4) (hr : meth.sig.returnType = ret) (hb : b < s.heap.size ∧ va_X b 7 xs s s.heap) {M : gM} (hFr : gFr M) : G p l e room_1 s m #[Value.ref b] below meth c s.heap.size D cA 4 (lw_Z below #[Value.ref b] s) 206 87467 M 206 1943 [(3, gJ 0), (2, gA s.heap.size 190), (1, gA s.heap.size 0), (0, .ref b)] [] := by
  have rents := gFr_rents hFr
  have way := gFr_way hFr
  have beds := gFr_beds hFr
  have frost0 := gFr_frost0 hFr
  have rows0 := gFr_rows0 hFr
  have rooms0 := gFr_rooms0 hFr
  have tape0 := gFr_tape0 hFr
  have car0 := gFr_car0 hFr
  have hS := gFr_hS hFr
  obtain ⟨v0, e0, r0⟩ : ∃ z : Int, xs 0 = Int32.ofInt z ∧ -2147483648 ≤ z ∧ z ≤ 2147483647 := ⟨_, gi_of _, gi_rg _⟩
  obtain ⟨v1, e1, r1⟩ : ∃ z : Int, xs 1 = Int32.ofInt z ∧ -2147483648 ≤ z ∧ z ≤ 2147483647 := ⟨_, gi_of _, gi_rg _⟩
  obtain ⟨v2, e2, r2⟩ : ∃ z : Int, xs 2 = Int32.ofInt z ∧ -2147483648 ≤ z ∧ z ≤ 2147483647 := ⟨_, gi_of _, gi_rg _⟩
  obtain ⟨v3, e3, r3⟩ : ∃ z : Int, xs 3 = Int32.ofInt z ∧ -2147483648 ≤ z ∧ z ≤ 2147483647 := ⟨_, gi_of _, gi_rg _⟩
  obtain ⟨v4, e4, r4⟩ : ∃ z : Int, xs 4 = Int32.ofInt z ∧ -2147483648 ≤ z ∧ z ≤ 2147483647 := ⟨_, gi_of _, gi_rg _⟩
  obtain ⟨v5, e5, r5⟩ : ∃ z : Int, xs 5 = Int32.ofInt z ∧ -2147483648 ≤ z ∧ z ≤ 2147483647 := ⟨_, gi_of _, gi_rg _⟩
  obtain ⟨v6, e6, r6⟩ : ∃ z : Int, xs 6 = Int32.ofInt z ∧ -2147483648 ≤ z ∧ z ≤ 2147483647 := ⟨_, gi_of _, gi_rg _⟩
  refine g_aload_n (n := 1944) X 2 dL_law_1943 rfl rfl rfl ?_
  refine g_callVi (n := 1947) (As := []) (rest := []) (cs1 := 358) (ss1 := 97974) X (c_X11_image (gFr_0_0 hFr) (gFr_0_9 hFr) (gFr_1_0 hFr) (gFr_1_1 hFr) (gFr_1_2 hFr) (gFr_1_3 hFr) (gFr_1_4 hFr) (gFr_1_5 hFr) (gFr_1_6 hFr) (gFr_1_7 hFr) (gFr_1_8 hFr) (gFr_1_9 hFr) (gFr_1_10 hFr) (gFr_1_11 hFr) (gFr_1_12 hFr) (gFr_1_13 hFr) (gFr_1_14 hFr) (gFr_1_15 hFr) (gFr_2_0 hFr) (gFr_2_1 hFr) (gFr_15_0 hFr) (gFr_15_1 hFr) (gFr_15_2 hFr) (gFr_15_3 hFr) (gFr_15_4 hFr) (gFr_15_5 hFr) (gFr_15_6 hFr) (gFr_9_0 hFr) (gFr_9_1 hFr) (gFr_9_2 hFr) (gFr_9_3 hFr) (gFr_9_4 hFr) (gFr_23_0 hFr) (gFr_23_1 hFr) (gFr_26_0 hFr) (gFr_26_1 hFr) (gFr_26_2 hFr) car0 tape0) okX11_image kw_5_208 ⟨kw_5_209, kw_5_210⟩ ⟨rfl, rfl⟩ ⟨Nat.le_of_ble_eq_true rfl, Nat.le_of_ble_eq_true rfl⟩ rfl (by omega) (by omega) lay_0 rfl rfl (Nat.le_of_ble_eq_true rfl) ⟨Nat.le_of_ble_eq_true rfl, Nat.le_of_ble_eq_true rfl⟩ rfl rfl dL_law_1944 rfl (fun z1 M2 P3 => ?_)
  obtain ⟨P3, F4⟩ := P3
  refine g_aload_n (n := 1948) X 1 dL_law_1947 rfl rfl rfl ?_
  refine g_callVi (n := 1951) (As := []) (rest := [gJ z1]) (cs1 := 358) (ss1 := 97974) X (c_X12_image (by omega) ((congrFun (F4 190 (by omega) (by omega)) _).trans (gFr_190_1 hFr)) ((congrFun (F4 191 (by omega) (by omega)) _).trans ((hS 0 (by omega) (by omega)).trans (by decide))) ((congrFun (F4 190 (by omega) (by omega)) _).trans (gFr_190_3 hFr))) okX12_image kw_8_37 ⟨kw_8_38, kw_8_39⟩ ⟨rfl, rfl⟩ ⟨Nat.le_of_ble_eq_true rfl, Nat.le_of_ble_eq_true rfl⟩ rfl (by omega) (by omega) lay_190 rfl rfl (Nat.le_of_ble_eq_true rfl) ⟨Nat.le_of_ble_eq_true rfl, Nat.le_of_ble_eq_true rfl⟩ rfl rfl dL_law_1948 rfl (fun z5 M6 P7 => ?_)
  obtain ⟨P7, F8⟩ := P7
  refine g_icmp_eq (n := 1954) (tgt := 1992) X dL_law_1951 (by decide) (by omega) (by omega) rfl (fun c9 => ?_) (fun c9 => by exfalso; omega)
  exact law_tail X hr hb (by omega) (by omega)
