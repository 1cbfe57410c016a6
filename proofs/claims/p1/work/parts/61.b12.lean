theorem dL_law_860 : decode code 860 = .ok (.aload_n 1, 1) := by decide +kernel
theorem dL_law_861 : decode code 861 = .ok (.aload_n 0, 1) := by decide +kernel
theorem dL_law_862 : decode code 862 = .ok (.iload_n 3, 1) := by decide +kernel
theorem dL_law_863 : decode code 863 = .ok (.iconst 1, 1) := by decide +kernel
theorem dL_law_864 : decode code 864 = .ok (.iadd, 1) := by decide +kernel
theorem dL_law_865 : decode code 865 = .ok (.iaload, 1) := by decide +kernel
theorem dL_law_866 : decode code 866 = .ok (.aload_n 0, 1) := by decide +kernel
theorem dL_law_867 : decode code 867 = .ok (.iload_n 3, 1) := by decide +kernel
theorem dL_law_868 : decode code 868 = .ok (.iconst 2, 1) := by decide +kernel
theorem dL_law_869 : decode code 869 = .ok (.iadd, 1) := by decide +kernel
theorem dL_law_870 : decode code 870 = .ok (.iaload, 1) := by decide +kernel
theorem dL_law_871 : decode code 871 = .ok (.aload_n 0, 1) := by decide +kernel
theorem dL_law_872 : decode code 872 = .ok (.iload_n 3, 1) := by decide +kernel
theorem dL_law_873 : decode code 873 = .ok (.iconst 3, 1) := by decide +kernel
theorem dL_law_874 : decode code 874 = .ok (.iadd, 1) := by decide +kernel
theorem dL_law_875 : decode code 875 = .ok (.iaload, 1) := by decide +kernel
theorem dL_law_876 : decode code 876 = .ok (.aload_n 0, 1) := by decide +kernel
theorem dL_law_877 : decode code 877 = .ok (.iload_n 3, 1) := by decide +kernel
theorem dL_law_878 : decode code 878 = .ok (.iconst 4, 1) := by decide +kernel
theorem dL_law_879 : decode code 879 = .ok (.iadd, 1) := by decide +kernel
theorem dL_law_880 : decode code 880 = .ok (.iaload, 1) := by decide +kernel
theorem dL_law_881 : decode code 881 = .ok (.invokevirtual 69, 3) := by decide +kernel
theorem kw_3_168 : (Jvm.Cond.methodLink "ParishUnionLaw" (69 : Nat) ({ cls := "ParishUnion", name := "maybe", desc := "(IIII)I" } : Jvm.MethodName)) ∈ gT := gT_of (tb_3 _ (List.mem_of_getElem? (i := 168) rfl)) rfl
theorem kw_3_171 : (Jvm.Cond.code ({ cls := "ParishUnion", name := "maybe", desc := "(IIII)I" } : Jvm.MethodName) prog_1_method_14_code (5 : Nat) (Option.some Jvm.ClassFile.FieldType.int)) ∈ gT := gT_of (tb_3 _ (List.mem_of_getElem? (i := 171) rfl)) rfl
theorem okX11_maybe : gQok yX11_maybe cX11_maybe 5 (Option.some Jvm.ClassFile.FieldType.int) 4 := ⟨kw_3_171, kw_1_1, by decide +kernel, by decide +kernel, by decide +kernel⟩
theorem kw_3_169 : (Jvm.Cond.instanceMethod ({ cls := "ParishUnion", name := "maybe", desc := "(IIII)I" } : Jvm.MethodName)) ∈ gT := gT_of (tb_3 _ (List.mem_of_getElem? (i := 169) rfl)) rfl
theorem kw_3_170 : (Jvm.Cond.selects "ParishUnion" ({ cls := "ParishUnion", name := "maybe", desc := "(IIII)I" } : Jvm.MethodName) ({ cls := "ParishUnion", name := "maybe", desc := "(IIII)I" } : Jvm.MethodName)) ∈ gT := gT_of (tb_3 _ (List.mem_of_getElem? (i := 170) rfl)) rfl
theorem dL_law_884 : decode code 884 = .ok (.aload_n 2, 1) := by decide +kernel
theorem dL_law_885 : decode code 885 = .ok (.aload_n 0, 1) := by decide +kernel
theorem dL_law_886 : decode code 886 = .ok (.iload_n 3, 1) := by decide +kernel
theorem dL_law_887 : decode code 887 = .ok (.iconst 1, 1) := by decide +kernel
theorem dL_law_888 : decode code 888 = .ok (.iadd, 1) := by decide +kernel
theorem dL_law_889 : decode code 889 = .ok (.iaload, 1) := by decide +kernel
theorem dL_law_890 : decode code 890 = .ok (.aload_n 0, 1) := by decide +kernel
theorem dL_law_891 : decode code 891 = .ok (.iload_n 3, 1) := by decide +kernel
theorem dL_law_892 : decode code 892 = .ok (.iconst 2, 1) := by decide +kernel
theorem dL_law_893 : decode code 893 = .ok (.iadd, 1) := by decide +kernel
theorem dL_law_894 : decode code 894 = .ok (.iaload, 1) := by decide +kernel
theorem dL_law_895 : decode code 895 = .ok (.aload_n 0, 1) := by decide +kernel
theorem dL_law_896 : decode code 896 = .ok (.iload_n 3, 1) := by decide +kernel
theorem dL_law_897 : decode code 897 = .ok (.iconst 3, 1) := by decide +kernel
theorem dL_law_898 : decode code 898 = .ok (.iadd, 1) := by decide +kernel
theorem dL_law_899 : decode code 899 = .ok (.iaload, 1) := by decide +kernel
theorem dL_law_900 : decode code 900 = .ok (.aload_n 0, 1) := by decide +kernel
theorem dL_law_901 : decode code 901 = .ok (.iload_n 3, 1) := by decide +kernel
theorem dL_law_902 : decode code 902 = .ok (.iconst 4, 1) := by decide +kernel
theorem dL_law_903 : decode code 903 = .ok (.iadd, 1) := by decide +kernel
theorem dL_law_904 : decode code 904 = .ok (.iaload, 1) := by decide +kernel
theorem dL_law_905 : decode code 905 = .ok (.invokevirtual 72, 3) := by decide +kernel
theorem kw_6_216 : (Jvm.Cond.methodLink "ParishUnionLaw" (72 : Nat) ({ cls := "ParishUnionModel", name := "maybe", desc := "(IIII)I" } : Jvm.MethodName)) ∈ gT := gT_of (tb_6 _ (List.mem_of_getElem? (i := 216) rfl)) rfl
theorem kw_6_219 : (Jvm.Cond.code ({ cls := "ParishUnionModel", name := "maybe", desc := "(IIII)I" } : Jvm.MethodName) prog_14_method_33_code (13 : Nat) (Option.some Jvm.ClassFile.FieldType.int)) ∈ gT := gT_of (tb_6 _ (List.mem_of_getElem? (i := 219) rfl)) rfl
theorem okX12_maybe : gQok yX12_maybe cX12_maybe 13 (Option.some Jvm.ClassFile.FieldType.int) 4 := ⟨kw_6_219, kw_1_13, by decide +kernel, by decide +kernel, by decide +kernel⟩
theorem kw_6_217 : (Jvm.Cond.instanceMethod ({ cls := "ParishUnionModel", name := "maybe", desc := "(IIII)I" } : Jvm.MethodName)) ∈ gT := gT_of (tb_6 _ (List.mem_of_getElem? (i := 217) rfl)) rfl
theorem kw_6_218 : (Jvm.Cond.selects "ParishUnionModel" ({ cls := "ParishUnionModel", name := "maybe", desc := "(IIII)I" } : Jvm.MethodName) ({ cls := "ParishUnionModel", name := "maybe", desc := "(IIII)I" } : Jvm.MethodName)) ∈ gT := gT_of (tb_6 _ (List.mem_of_getElem? (i := 218) rfl)) rfl
theorem dL_law_908 : decode code 908 = .ok (.if_icmp .eq 1084, 3) := by decide +kernel
set_option maxRecDepth 100000 in
set_option maxHeartbeats 4000000 in
theorem law_case_12 {p : Program} {e : Env} {s : State} {m : MethodId} {below : List Frame} {meth : Method} {c : Code} {l : Launch} {D : va_G} {cA : Nat → ClassId} {b : Nat} {xs : Nat → Int32} (X : gCx p s m #[Value.ref b] meth c s.heap.size D cA "ParishUnionLaw" code 4) (hr : meth.sig.returnType = ret) (hb : b < s.heap.size ∧ va_X b 7 xs s s.heap) {M : gM} (hFr : gFr M) : G p l e room_1 s m #[Value.ref b] below meth c s.heap.size D cA 4 (lw_Z below #[Value.ref b] s) 206 87467 M 206 860 [(3, gJ 0), (2, gA s.heap.size 190), (1, gA s.heap.size 0), (0, .ref b)] [] := by
  have rents := gFr_rents hFr
  have way := gFr_way hFr
  have beds := gFr_beds hFr
  have frost0 := gFr_frost0 hFr
  have rows0 := gFr_rows0 hFr
  have rooms0 := gFr_rooms0 hFr
  have tape0 := gFr_tape0 hFr
  have car0 := gFr_car0 hFr
  have hS := gFr_hS hFr
  obtain ⟨v0, e0, r0⟩ : ∃ z : Int, xs 0 = Int32.ofInt z ∧ -2147483648 ≤ z ∧ z ≤ 2147483647 := ⟨_, gi_of _, gi_rg _⟩
  obtain ⟨v1, e1, r1⟩ : ∃ z : Int, xs 1 = Int32.ofInt z ∧ -2147483648 ≤ z ∧ z ≤ 2147483647 := ⟨_, gi_of _, gi_rg _⟩
  obtain ⟨v2, e2, r2⟩ : ∃ z : Int, xs 2 = Int32.ofInt z ∧ -2147483648 ≤ z ∧ z ≤ 2147483647 := ⟨_, gi_of _, gi_rg _⟩
  obtain ⟨v3, e3, r3⟩ : ∃ z : Int, xs 3 = Int32.ofInt z ∧ -2147483648 ≤ z ∧ z ≤ 2147483647 := ⟨_, gi_of _, gi_rg _⟩
  obtain ⟨v4, e4, r4⟩ : ∃ z : Int, xs 4 = Int32.ofInt z ∧ -2147483648 ≤ z ∧ z ≤ 2147483647 := ⟨_, gi_of _, gi_rg _⟩
  obtain ⟨v5, e5, r5⟩ : ∃ z : Int, xs 5 = Int32.ofInt z ∧ -2147483648 ≤ z ∧ z ≤ 2147483647 := ⟨_, gi_of _, gi_rg _⟩
  obtain ⟨v6, e6, r6⟩ : ∃ z : Int, xs 6 = Int32.ofInt z ∧ -2147483648 ≤ z ∧ z ≤ 2147483647 := ⟨_, gi_of _, gi_rg _⟩
  refine g_aload_n (n := 861) X 2 dL_law_860 rfl rfl rfl ?_
  refine g_aload_n (n := 862) X 3 dL_law_861 rfl rfl rfl ?_
  refine g_iload_n (n := 863) X 0 dL_law_862 rfl rfl rfl ?_
  refine g_iconst (n := 864) X dL_law_863 rfl ?_
  refine g_iadd (n := 865) (z := 1) X dL_law_864 rfl rfl ?_
  refine g_scrld (n := 866) (z := v1) X hb (by omega) (by omega) (by omega) dL_law_865 rfl e1 ?_
  refine g_aload_n (n := 867) X 3 dL_law_866 rfl rfl rfl ?_
  refine g_iload_n (n := 868) X 0 dL_law_867 rfl rfl rfl ?_
  refine g_iconst (n := 869) X dL_law_868 rfl ?_
  refine g_iadd (n := 870) (z := 2) X dL_law_869 rfl rfl ?_
  refine g_scrld (n := 871) (z := v2) X hb (by omega) (by omega) (by omega) dL_law_870 rfl e2 ?_
  refine g_aload_n (n := 872) X 3 dL_law_871 rfl rfl rfl ?_
  refine g_iload_n (n := 873) X 0 dL_law_872 rfl rfl rfl ?_
  refine g_iconst (n := 874) X dL_law_873 rfl ?_
  refine g_iadd (n := 875) (z := 3) X dL_law_874 rfl rfl ?_
  refine g_scrld (n := 876) (z := v3) X hb (by omega) (by omega) (by omega) dL_law_875 rfl e3 ?_
  refine g_aload_n (n := 877) X 3 dL_law_876 rfl rfl rfl ?_
  refine g_iload_n (n := 878) X 0 dL_law_877 rfl rfl rfl ?_
  refine g_iconst (n := 879) X dL_law_878 rfl ?_
  refine g_iadd (n := 880) (z := 4) X dL_law_879 rfl rfl ?_
  refine g_scrld (n := 881) (z := v4) X hb (by omega) (by omega) (by omega) dL_law_880 rfl e4 ?_
  refine g_callVi (n := 884) (As := [gJ v1, gJ v2, gJ v3, gJ v4]) (rest := []) (cs1 := 206) (ss1 := 87467) X (c_X11_maybe v1 v2 v3 v4 (by omega) (by omega) (by omega) (by omega) (by omega) (gFr_0_0 hFr) (gFr_1_10 hFr)) okX11_maybe kw_3_168 ⟨kw_3_169, kw_3_170⟩ ⟨rfl, rfl⟩ ⟨Nat.le_of_ble_eq_true rfl, Nat.le_of_ble_eq_true rfl⟩ rfl (by omega) (by omega) lay_0 rfl rfl (Nat.le_of_ble_eq_true rfl) ⟨Nat.le_of_ble_eq_true rfl, Nat.le_of_ble_eq_true rfl⟩ rfl rfl dL_law_881 rfl (fun z1 M2 P3 => ?_)
  obtain ⟨P3, F4⟩ := P3
  refine g_aload_n (n := 885) X 1 dL_law_884 rfl rfl rfl ?_
  refine g_aload_n (n := 886) X 3 dL_law_885 rfl rfl rfl ?_
  refine g_iload_n (n := 887) X 0 dL_law_886 rfl rfl rfl ?_
  refine g_iconst (n := 888) X dL_law_887 rfl ?_
  refine g_iadd (n := 889) (z := 1) X dL_law_888 rfl rfl ?_
  refine g_scrld (n := 890) (z := v1) X hb (by omega) (by omega) (by omega) dL_law_889 rfl e1 ?_
  refine g_aload_n (n := 891) X 3 dL_law_890 rfl rfl rfl ?_
  refine g_iload_n (n := 892) X 0 dL_law_891 rfl rfl rfl ?_
  refine g_iconst (n := 893) X dL_law_892 rfl ?_
  refine g_iadd (n := 894) (z := 2) X dL_law_893 rfl rfl ?_
  refine g_scrld (n := 895) (z := v2) X hb (by omega) (by omega) (by omega) dL_law_894 rfl e2 ?_
  refine g_aload_n (n := 896) X 3 dL_law_895 rfl rfl rfl ?_
  refine g_iload_n (n := 897) X 0 dL_law_896 rfl rfl rfl ?_
  refine g_iconst (n := 898) X dL_law_897 rfl ?_
  refine g_iadd (n := 899) (z := 3) X dL_law_898 rfl rfl ?_
  refine g_scrld (n := 900) (z := v3) X hb (by omega) (by omega) (by omega) dL_law_899 rfl e3 ?_
  refine g_aload_n (n := 901) X 3 dL_law_900 rfl rfl rfl ?_
  refine g_iload_n (n := 902) X 0 dL_law_901 rfl rfl rfl ?_
  refine g_iconst (n := 903) X dL_law_902 rfl ?_
  refine g_iadd (n := 904) (z := 4) X dL_law_903 rfl rfl ?_
  refine g_scrld (n := 905) (z := v4) X hb (by omega) (by omega) (by omega) dL_law_904 rfl e4 ?_
  refine g_callVi (n := 908) (As := [gJ v1, gJ v2, gJ v3, gJ v4]) (rest := [gJ z1]) (cs1 := 206) (ss1 := 87467) X (c_X12_maybe v1 v2 v3 v4 (by omega) (by omega) (by omega) (by omega) (by omega) ((congrFun (F4 190) _).trans (gFr_190_1 hFr)) ((congrFun (F4 191) _).trans ((hS 1 (by omega) (by omega)).trans (by decide)))) okX12_maybe kw_6_216 ⟨kw_6_217, kw_6_218⟩ ⟨rfl, rfl⟩ ⟨Nat.le_of_ble_eq_true rfl, Nat.le_of_ble_eq_true rfl⟩ rfl (by omega) (by omega) lay_190 rfl rfl (Nat.le_of_ble_eq_true rfl) ⟨Nat.le_of_ble_eq_true rfl, Nat.le_of_ble_eq_true rfl⟩ rfl rfl dL_law_905 rfl (fun z5 M6 P7 => ?_)
  obtain ⟨P7, F8⟩ := P7
  refine g_icmp_eq (n := 911) (tgt := 1992) X dL_law_908 (by decide) (by omega) (by omega) rfl (fun c9 => ?_) (fun c9 => by exfalso; omega)
  exact law_tail X hr hb (by omega) (by omega)
theorem dL_law_913 : decode code 913 = .ok (.aload_n 1, 1) := by decide +kernel
theorem dL_law_914 : decode code 914 = .ok (.aload_n 0, 1) := by decide +kernel
theorem dL_law_915 : decode code 915 = .ok (.iload_n 3, 1) := by decide +kernel
theorem dL_law_916 : decode code 916 = .ok (.iconst 1, 1) := by decide +kernel
theorem dL_law_917 : decode code 917 = .ok (.iadd, 1) := by decide +kernel
theorem dL_law_918 : decode code 918 = .ok (.iaload, 1) := by decide +kernel
theorem dL_law_919 : decode code 919 = .ok (.i2l, 1) := by decide +kernel
theorem dL_law_920 : decode code 920 = .ok (.bipush 32, 2) := by decide +kernel
theorem dL_law_922 : decode code 922 = .ok (.lshl, 1) := by decide +kernel
theorem dL_law_923 : decode code 923 = .ok (.aload_n 0, 1) := by decide +kernel
theorem dL_law_924 : decode code 924 = .ok (.iload_n 3, 1) := by decide +kernel
theorem dL_law_925 : decode code 925 = .ok (.iconst 2, 1) := by decide +kernel
theorem dL_law_926 : decode code 926 = .ok (.iadd, 1) := by decide +kernel
theorem dL_law_927 : decode code 927 = .ok (.iaload, 1) := by decide +kernel
theorem dL_law_928 : decode code 928 = .ok (.i2l, 1) := by decide +kernel
theorem dL_law_929 : decode code 929 = .ok (.ldc2_w 73, 3) := by decide +kernel
theorem kw_8_53 : (Jvm.Cond.constantLong "ParishUnionLaw" (73 : Nat) (4294967295 : Int64)) ∈ gT := gT_of (tb_8 _ (List.mem_of_getElem? (i := 53) rfl)) rfl
theorem dL_law_932 : decode code 932 = .ok (.land, 1) := by decide +kernel
theorem dL_law_933 : decode code 933 = .ok (.lor, 1) := by decide +kernel
theorem dL_law_934 : decode code 934 = .ok (.aload_n 0, 1) := by decide +kernel
theorem dL_law_935 : decode code 935 = .ok (.iload_n 3, 1) := by decide +kernel
theorem dL_law_936 : decode code 936 = .ok (.iconst 3, 1) := by decide +kernel
theorem dL_law_937 : decode code 937 = .ok (.iadd, 1) := by decide +kernel
theorem dL_law_938 : decode code 938 = .ok (.iaload, 1) := by decide +kernel
theorem dL_law_939 : decode code 939 = .ok (.invokevirtual 75, 3) := by decide +kernel
theorem kw_3_191 : (Jvm.Cond.methodLink "ParishUnionLaw" (75 : Nat) ({ cls := "ParishUnion", name := "feed", desc := "(JI)I" } : Jvm.MethodName)) ∈ gT := gT_of (tb_3 _ (List.mem_of_getElem? (i := 191) rfl)) rfl
theorem kw_3_194 : (Jvm.Cond.code ({ cls := "ParishUnion", name := "feed", desc := "(JI)I" } : Jvm.MethodName) prog_1_method_15_code (5 : Nat) (Option.some Jvm.ClassFile.FieldType.int)) ∈ gT := gT_of (tb_3 _ (List.mem_of_getElem? (i := 194) rfl)) rfl
theorem okX11_feed : gQok yX11_feed cX11_feed 5 (Option.some Jvm.ClassFile.FieldType.int) 2 := ⟨kw_3_194, kw_1_1, by decide +kernel, by decide +kernel, by decide +kernel⟩
theorem kw_3_192 : (Jvm.Cond.instanceMethod ({ cls := "ParishUnion", name := "feed", desc := "(JI)I" } : Jvm.MethodName)) ∈ gT := gT_of (tb_3 _ (List.mem_of_getElem? (i := 192) rfl)) rfl
theorem kw_3_193 : (Jvm.Cond.selects "ParishUnion" ({ cls := "ParishUnion", name := "feed", desc := "(JI)I" } : Jvm.MethodName) ({ cls := "ParishUnion", name := "feed", desc := "(JI)I" } : Jvm.MethodName)) ∈ gT := gT_of (tb_3 _ (List.mem_of_getElem? (i := 193) rfl)) rfl
theorem dL_law_942 : decode code 942 = .ok (.aload_n 2, 1) := by decide +kernel
theorem dL_law_943 : decode code 943 = .ok (.aload_n 0, 1) := by decide +kernel
theorem dL_law_944 : decode code 944 = .ok (.iload_n 3, 1) := by decide +kernel
theorem dL_law_945 : decode code 945 = .ok (.iconst 1, 1) := by decide +kernel
theorem dL_law_946 : decode code 946 = .ok (.iadd, 1) := by decide +kernel
theorem dL_law_947 : decode code 947 = .ok (.iaload, 1) := by decide +kernel
theorem dL_law_948 : decode code 948 = .ok (.i2l, 1) := by decide +kernel
theorem dL_law_949 : decode code 949 = .ok (.bipush 32, 2) := by decide +kernel
theorem dL_law_951 : decode code 951 = .ok (.lshl, 1) := by decide +kernel
theorem dL_law_952 : decode code 952 = .ok (.aload_n 0, 1) := by decide +kernel
theorem dL_law_953 : decode code 953 = .ok (.iload_n 3, 1) := by decide +kernel
theorem dL_law_954 : decode code 954 = .ok (.iconst 2, 1) := by decide +kernel
theorem dL_law_955 : decode code 955 = .ok (.iadd, 1) := by decide +kernel
theorem dL_law_956 : decode code 956 = .ok (.iaload, 1) := by decide +kernel
theorem dL_law_957 : decode code 957 = .ok (.i2l, 1) := by decide +kernel
theorem dL_law_958 : decode code 958 = .ok (.ldc2_w 73, 3) := by decide +kernel
theorem dL_law_961 : decode code 961 = .ok (.land, 1) := by decide +kernel
theorem dL_law_962 : decode code 962 = .ok (.lor, 1) := by decide +kernel
theorem dL_law_963 : decode code 963 = .ok (.aload_n 0, 1) := by decide +kernel
theorem dL_law_964 : decode code 964 = .ok (.iload_n 3, 1) := by decide +kernel
theorem dL_law_965 : decode code 965 = .ok (.iconst 3, 1) := by decide +kernel
theorem dL_law_966 : decode code 966 = .ok (.iadd, 1) := by decide +kernel
theorem dL_law_967 : decode code 967 = .ok (.iaload, 1) := by decide +kernel
theorem dL_law_968 : decode code 968 = .ok (.invokevirtual 79, 3) := by decide +kernel
theorem kw_6_227 : (Jvm.Cond.methodLink "ParishUnionLaw" (79 : Nat) ({ cls := "ParishUnionModel", name := "feed", desc := "(JI)I" } : Jvm.MethodName)) ∈ gT := gT_of (tb_6 _ (List.mem_of_getElem? (i := 227) rfl)) rfl
theorem kw_6_230 : (Jvm.Cond.code ({ cls := "ParishUnionModel", name := "feed", desc := "(JI)I" } : Jvm.MethodName) prog_14_method_34_code (5 : Nat) (Option.some Jvm.ClassFile.FieldType.int)) ∈ gT := gT_of (tb_6 _ (List.mem_of_getElem? (i := 230) rfl)) rfl
theorem okX12_feed : gQok yX12_feed cX12_feed 5 (Option.some Jvm.ClassFile.FieldType.int) 2 := ⟨kw_6_230, kw_1_13, by decide +kernel, by decide +kernel, by decide +kernel⟩
theorem kw_6_228 : (Jvm.Cond.instanceMethod ({ cls := "ParishUnionModel", name := "feed", desc := "(JI)I" } : Jvm.MethodName)) ∈ gT := gT_of (tb_6 _ (List.mem_of_getElem? (i := 228) rfl)) rfl
theorem kw_6_229 : (Jvm.Cond.selects "ParishUnionModel" ({ cls := "ParishUnionModel", name := "feed", desc := "(JI)I" } : Jvm.MethodName) ({ cls := "ParishUnionModel", name := "feed", desc := "(JI)I" } : Jvm.MethodName)) ∈ gT := gT_of (tb_6 _ (List.mem_of_getElem? (i := 229) rfl)) rfl
theorem dL_law_971 : decode code 971 = .ok (.if_icmp .eq 1021, 3) := by decide +kernel
set_option maxRecDepth 100000 in
set_option maxHeartbeats 4000000 in
theorem law_case_13 {p : Program} {e : Env} {s : State} {m : MethodId} {below : List Frame} {meth : Method} {c : Code} {l : Launch} {D : va_G} {cA : Nat → ClassId} {b : Nat} {xs : Nat → Int32} (X : gCx p s m #[Value.ref b] meth c s.heap.size D cA "ParishUnionLaw" code 4) (hr : meth.sig.returnType = ret) (hb : b < s.heap.size ∧ va_X b 7 xs s s.heap) {M : gM} (hFr : gFr M) : G p l e room_1 s m #[Value.ref b] below meth c s.heap.size D cA 4 (lw_Z below #[Value.ref b] s) 206 87467 M 206 913 [(3, gJ 0), (2, gA s.heap.size 190), (1, gA s.heap.size 0), (0, .ref b)] [] := by
  have rents := gFr_rents hFr
  have way := gFr_way hFr
  have beds := gFr_beds hFr
  have frost0 := gFr_frost0 hFr
  have rows0 := gFr_rows0 hFr
  have rooms0 := gFr_rooms0 hFr
  have tape0 := gFr_tape0 hFr
  have car0 := gFr_car0 hFr
  have hS := gFr_hS hFr
  obtain ⟨v0, e0, r0⟩ : ∃ z : Int, xs 0 = Int32.ofInt z ∧ -2147483648 ≤ z ∧ z ≤ 2147483647 := ⟨_, gi_of _, gi_rg _⟩
  obtain ⟨v1, e1, r1⟩ : ∃ z : Int, xs 1 = Int32.ofInt z ∧ -2147483648 ≤ z ∧ z ≤ 2147483647 := ⟨_, gi_of _, gi_rg _⟩
  obtain ⟨v2, e2, r2⟩ : ∃ z : Int, xs 2 = Int32.ofInt z ∧ -2147483648 ≤ z ∧ z ≤ 2147483647 := ⟨_, gi_of _, gi_rg _⟩
  obtain ⟨v3, e3, r3⟩ : ∃ z : Int, xs 3 = Int32.ofInt z ∧ -2147483648 ≤ z ∧ z ≤ 2147483647 := ⟨_, gi_of _, gi_rg _⟩
  obtain ⟨v4, e4, r4⟩ : ∃ z : Int, xs 4 = Int32.ofInt z ∧ -2147483648 ≤ z ∧ z ≤ 2147483647 := ⟨_, gi_of _, gi_rg _⟩
  obtain ⟨v5, e5, r5⟩ : ∃ z : Int, xs 5 = Int32.ofInt z ∧ -2147483648 ≤ z ∧ z ≤ 2147483647 := ⟨_, gi_of _, gi_rg _⟩
  obtain ⟨v6, e6, r6⟩ : ∃ z : Int, xs 6 = Int32.ofInt z ∧ -2147483648 ≤ z ∧ z ≤ 2147483647 := ⟨_, gi_of _, gi_rg _⟩
  refine g_aload_n (n := 914) X 2 dL_law_913 rfl rfl rfl ?_
  refine g_aload_n (n := 915) X 3 dL_law_914 rfl rfl rfl ?_
  refine g_iload_n (n := 916) X 0 dL_law_915 rfl rfl rfl ?_
  refine g_iconst (n := 917) X dL_law_916 rfl ?_
  refine g_iadd (n := 918) (z := 1) X dL_law_917 rfl rfl ?_
  refine g_scrld (n := 919) (z := v1) X hb (by omega) (by omega) (by omega) dL_law_918 rfl e1 ?_
  have rq919 := gl_rg ((Int32.ofInt v1).toInt64)
  refine g_i2lE (n := 920) (z := ((Int32.ofInt v1).toInt64).toInt) X dL_law_919 (gl_of _) rfl ?_
  refine g_bipush (n := 922) X dL_law_920 (by decide +kernel) rfl ?_
  have rq922 := gl_rg (Int64.ofInt (((Int32.ofInt v1).toInt64).toInt) <<< ((Int32.ofInt 32).toInt64 &&& 63))
  refine g_lshlE (n := 923) (z := (Int64.ofInt (((Int32.ofInt v1).toInt64).toInt) <<< ((Int32.ofInt 32).toInt64 &&& 63)).toInt) X dL_law_922 (gl_of _) rfl ?_
  refine g_aload_n (n := 924) X 3 dL_law_923 rfl rfl rfl ?_
  refine g_iload_n (n := 925) X 0 dL_law_924 rfl rfl rfl ?_
  refine g_iconst (n := 926) X dL_law_925 rfl ?_
  refine g_iadd (n := 927) (z := 2) X dL_law_926 rfl rfl ?_
  refine g_scrld (n := 928) (z := v2) X hb (by omega) (by omega) (by omega) dL_law_927 rfl e2 ?_
  have rq928 := gl_rg ((Int32.ofInt v2).toInt64)
  refine g_i2lE (n := 929) (z := ((Int32.ofInt v2).toInt64).toInt) X dL_law_928 (gl_of _) rfl ?_
  refine g_ldc2 (n := 932) (z := 4294967295) X dL_law_929 kw_8_53 (by decide +kernel) rfl ?_
  have rq932 := gl_rg (Int64.ofInt (((Int32.ofInt v2).toInt64).toInt) &&& Int64.ofInt 4294967295)
  refine g_landE (n := 933) (z := (Int64.ofInt (((Int32.ofInt v2).toInt64).toInt) &&& Int64.ofInt 4294967295).toInt) X dL_law_932 (gl_of _) rfl ?_
  have rq933 := gl_rg (Int64.ofInt ((Int64.ofInt (((Int32.ofInt v1).toInt64).toInt) <<< ((Int32.ofInt 32).toInt64 &&& 63)).toInt) ||| Int64.ofInt ((Int64.ofInt (((Int32.ofInt v2).toInt64).toInt) &&& Int64.ofInt 4294967295).toInt))
  refine g_lorE (n := 934) (z := (Int64.ofInt ((Int64.ofInt (((Int32.ofInt v1).toInt64).toInt) <<< ((Int32.ofInt 32).toInt64 &&& 63)).toInt) ||| Int64.ofInt ((Int64.ofInt (((Int32.ofInt v2).toInt64).toInt) &&& Int64.ofInt 4294967295).toInt)).toInt) X dL_law_933 (gl_of _) rfl ?_
  refine g_aload_n (n := 935) X 3 dL_law_934 rfl rfl rfl ?_
  refine g_iload_n (n := 936) X 0 dL_law_935 rfl rfl rfl ?_
  refine g_iconst (n := 937) X dL_law_936 rfl ?_
  refine g_iadd (n := 938) (z := 3) X dL_law_937 rfl rfl ?_
  refine g_scrld (n := 939) (z := v3) X hb (by omega) (by omega) (by omega) dL_law_938 rfl e3 ?_
  refine g_callVi (n := 942) (As := [gV ((Int64.ofInt ((Int64.ofInt (((Int32.ofInt v1).toInt64).toInt) <<< ((Int32.ofInt 32).toInt64 &&& 63)).toInt) ||| Int64.ofInt ((Int64.ofInt (((Int32.ofInt v2).toInt64).toInt) &&& Int64.ofInt 4294967295).toInt)).toInt), gJ v3]) (rest := []) (cs1 := 206) (ss1 := 87467) X (c_X11_feed ((Int64.ofInt ((Int64.ofInt (((Int32.ofInt v1).toInt64).toInt) <<< ((Int32.ofInt 32).toInt64 &&& 63)).toInt) ||| Int64.ofInt ((Int64.ofInt (((Int32.ofInt v2).toInt64).toInt) &&& Int64.ofInt 4294967295).toInt)).toInt) v3 (by omega) (by omega) (by omega) (gFr_0_0 hFr) (gFr_1_14 hFr) (gFr_1_4 hFr)) okX11_feed kw_3_191 ⟨kw_3_192, kw_3_193⟩ ⟨rfl, rfl⟩ ⟨Nat.le_of_ble_eq_true rfl, Nat.le_of_ble_eq_true rfl⟩ rfl (by omega) (by omega) lay_0 rfl rfl (Nat.le_of_ble_eq_true rfl) ⟨Nat.le_of_ble_eq_true rfl, Nat.le_of_ble_eq_true rfl⟩ rfl rfl dL_law_939 rfl (fun z1 M2 P3 => ?_)
  obtain ⟨P3, F4⟩ := P3
  refine g_aload_n (n := 943) X 1 dL_law_942 rfl rfl rfl ?_
  refine g_aload_n (n := 944) X 3 dL_law_943 rfl rfl rfl ?_
  refine g_iload_n (n := 945) X 0 dL_law_944 rfl rfl rfl ?_
  refine g_iconst (n := 946) X dL_law_945 rfl ?_
  refine g_iadd (n := 947) (z := 1) X dL_law_946 rfl rfl ?_
  refine g_scrld (n := 948) (z := v1) X hb (by omega) (by omega) (by omega) dL_law_947 rfl e1 ?_
  have rq948 := gl_rg ((Int32.ofInt v1).toInt64)
  refine g_i2lE (n := 949) (z := ((Int32.ofInt v1).toInt64).toInt) X dL_law_948 (gl_of _) rfl ?_
  refine g_bipush (n := 951) X dL_law_949 (by decide +kernel) rfl ?_
  have rq951 := gl_rg (Int64.ofInt (((Int32.ofInt v1).toInt64).toInt) <<< ((Int32.ofInt 32).toInt64 &&& 63))
  refine g_lshlE (n := 952) (z := (Int64.ofInt (((Int32.ofInt v1).toInt64).toInt) <<< ((Int32.ofInt 32).toInt64 &&& 63)).toInt) X dL_law_951 (gl_of _) rfl ?_
  refine g_aload_n (n := 953) X 3 dL_law_952 rfl rfl rfl ?_
  refine g_iload_n (n := 954) X 0 dL_law_953 rfl rfl rfl ?_
  refine g_iconst (n := 955) X dL_law_954 rfl ?_
  refine g_iadd (n := 956) (z := 2) X dL_law_955 rfl rfl ?_
  refine g_scrld (n := 957) (z := v2) X hb (by omega) (by omega) (by omega) dL_law_956 rfl e2 ?_
  have rq957 := gl_rg ((Int32.ofInt v2).toInt64)
  refine g_i2lE (n := 958) (z := ((Int32.ofInt v2).toInt64).toInt) X dL_law_957 (gl_of _) rfl ?_
  refine g_ldc2 (n := 961) (z := 4294967295) X dL_law_958 kw_8_53 (by decide +kernel) rfl ?_
  have rq961 := gl_rg (Int64.ofInt (((Int32.ofInt v2).toInt64).toInt) &&& Int64.ofInt 4294967295)
  refine g_landE (n := 962) (z := (Int64.ofInt (((Int32.ofInt v2).toInt64).toInt) &&& Int64.ofInt 4294967295).toInt) X dL_law_961 (gl_of _) rfl ?_
  have rq962 := gl_rg (Int64.ofInt ((Int64.ofInt (((Int32.ofInt v1).toInt64).toInt) <<< ((Int32.ofInt 32).toInt64 &&& 63)).toInt) ||| Int64.ofInt ((Int64.ofInt (((Int32.ofInt v2).toInt64).toInt) &&& Int64.ofInt 4294967295).toInt))
  refine g_lorE (n := 963) (z := (Int64.ofInt ((Int64.ofInt (((Int32.ofInt v1).toInt64).toInt) <<< ((Int32.ofInt 32).toInt64 &&& 63)).toInt) ||| Int64.ofInt ((Int64.ofInt (((Int32.ofInt v2).toInt64).toInt) &&& Int64.ofInt 4294967295).toInt)).toInt) X dL_law_962 (gl_of _) rfl ?_
  refine g_aload_n (n := 964) X 3 dL_law_963 rfl rfl rfl ?_
  refine g_iload_n (n := 965) X 0 dL_law_964 rfl rfl rfl ?_
  refine g_iconst (n := 966) X dL_law_965 rfl ?_
  refine g_iadd (n := 967) (z := 3) X dL_law_966 rfl rfl ?_
  refine g_scrld (n := 968) (z := v3) X hb (by omega) (by omega) (by omega) dL_law_967 rfl e3 ?_
  refine g_callVi (n := 971) (As := [gV ((Int64.ofInt ((Int64.ofInt (((Int32.ofInt v1).toInt64).toInt) <<< ((Int32.ofInt 32).toInt64 &&& 63)).toInt) ||| Int64.ofInt ((Int64.ofInt (((Int32.ofInt v2).toInt64).toInt) &&& Int64.ofInt 4294967295).toInt)).toInt), gJ v3]) (rest := [gJ z1]) (cs1 := 206) (ss1 := 87467) X (c_X12_feed ((Int64.ofInt ((Int64.ofInt (((Int32.ofInt v1).toInt64).toInt) <<< ((Int32.ofInt 32).toInt64 &&& 63)).toInt) ||| Int64.ofInt ((Int64.ofInt (((Int32.ofInt v2).toInt64).toInt) &&& Int64.ofInt 4294967295).toInt)).toInt) v3 (by omega) (by omega) (by omega) ((congrFun (F4 190 (by omega) (by omega)) _).trans (gFr_190_1 hFr)) ((congrFun (F4 191 (by omega) (by omega)) _).trans ((hS 10 (by omega) (by omega)).trans (by decide)))) okX12_feed kw_6_227 ⟨kw_6_228, kw_6_229⟩ ⟨rfl, rfl⟩ ⟨Nat.le_of_ble_eq_true rfl, Nat.le_of_ble_eq_true rfl⟩ rfl (by omega) (by omega) lay_190 rfl rfl (Nat.le_of_ble_eq_true rfl) ⟨Nat.le_of_ble_eq_true rfl, Nat.le_of_ble_eq_true rfl⟩ rfl rfl dL_law_968 rfl (fun z5 M6 P7 => ?_)
  obtain ⟨P7, F8⟩ := P7
  refine g_icmp_eq (n := 974) (tgt := 1992) X dL_law_971 (by decide) (by omega) (by omega) rfl (fun c9 => ?_) (fun c9 => by exfalso; omega)
  exact law_tail X hr hb (by omega) (by omega)
theorem dL_law_976 : decode code 976 = .ok (.aload_n 1, 1) := by decide +kernel
theorem dL_law_977 : decode code 977 = .ok (.aload_n 0, 1) := by decide +kernel
theorem dL_law_978 : decode code 978 = .ok (.iload_n 3, 1) := by decide +kernel
theorem dL_law_979 : decode code 979 = .ok (.iconst 1, 1) := by decide +kernel
theorem dL_law_980 : decode code 980 = .ok (.iadd, 1) := by decide +kernel
theorem dL_law_981 : decode code 981 = .ok (.iaload, 1) := by decide +kernel
theorem dL_law_982 : decode code 982 = .ok (.invokevirtual 80, 3) := by decide +kernel
theorem kw_3_195 : (Jvm.Cond.methodLink "ParishUnionLaw" (80 : Nat) ({ cls := "ParishUnion", name := "text", desc := "(I)I" } : Jvm.MethodName)) ∈ gT := gT_of (tb_3 _ (List.mem_of_getElem? (i := 195) rfl)) rfl
theorem kw_3_198 : (Jvm.Cond.code ({ cls := "ParishUnion", name := "text", desc := "(I)I" } : Jvm.MethodName) prog_1_method_16_code (3 : Nat) (Option.some Jvm.ClassFile.FieldType.int)) ∈ gT := gT_of (tb_3 _ (List.mem_of_getElem? (i := 198) rfl)) rfl
theorem okX11_text : gQok yX11_text cX11_text 3 (Option.some Jvm.ClassFile.FieldType.int) 1 := ⟨kw_3_198, kw_1_1, by decide +kernel, by decide +kernel, by decide +kernel⟩
theorem kw_3_196 : (Jvm.Cond.instanceMethod ({ cls := "ParishUnion", name := "text", desc := "(I)I" } : Jvm.MethodName)) ∈ gT := gT_of (tb_3 _ (List.mem_of_getElem? (i := 196) rfl)) rfl
theorem kw_3_197 : (Jvm.Cond.selects "ParishUnion" ({ cls := "ParishUnion", name := "text", desc := "(I)I" } : Jvm.MethodName) ({ cls := "ParishUnion", name := "text", desc := "(I)I" } : Jvm.MethodName)) ∈ gT := gT_of (tb_3 _ (List.mem_of_getElem? (i := 197) rfl)) rfl
theorem dL_law_985 : decode code 985 = .ok (.aload_n 2, 1) := by decide +kernel
theorem dL_law_986 : decode code 986 = .ok (.aload_n 0, 1) := by decide +kernel
theorem dL_law_987 : decode code 987 = .ok (.iload_n 3, 1) := by decide +kernel
theorem dL_law_988 : decode code 988 = .ok (.iconst 1, 1) := by decide +kernel
theorem dL_law_989 : decode code 989 = .ok (.iadd, 1) := by decide +kernel
theorem dL_law_990 : decode code 990 = .ok (.iaload, 1) := by decide +kernel
theorem dL_law_991 : decode code 991 = .ok (.invokevirtual 84, 3) := by decide +kernel
theorem kw_6_232 : (Jvm.Cond.methodLink "ParishUnionLaw" (84 : Nat) ({ cls := "ParishUnionModel", name := "text", desc := "(I)I" } : Jvm.MethodName)) ∈ gT := gT_of (tb_6 _ (List.mem_of_getElem? (i := 232) rfl)) rfl
theorem kw_6_235 : (Jvm.Cond.code ({ cls := "ParishUnionModel", name := "text", desc := "(I)I" } : Jvm.MethodName) prog_14_method_49_code (2 : Nat) (Option.some Jvm.ClassFile.FieldType.int)) ∈ gT := gT_of (tb_6 _ (List.mem_of_getElem? (i := 235) rfl)) rfl
theorem okX12_text : gQok yX12_text cX12_text 2 (Option.some Jvm.ClassFile.FieldType.int) 1 := ⟨kw_6_235, kw_1_13, by decide +kernel, by decide +kernel, by decide +kernel⟩
theorem kw_6_233 : (Jvm.Cond.instanceMethod ({ cls := "ParishUnionModel", name := "text", desc := "(I)I" } : Jvm.MethodName)) ∈ gT := gT_of (tb_6 _ (List.mem_of_getElem? (i := 233) rfl)) rfl
theorem kw_6_234 : (Jvm.Cond.selects "ParishUnionModel" ({ cls := "ParishUnionModel", name := "text", desc := "(I)I" } : Jvm.MethodName) ({ cls := "ParishUnionModel", name := "text", desc := "(I)I" } : Jvm.MethodName)) ∈ gT := gT_of (tb_6 _ (List.mem_of_getElem? (i := 234) rfl)) rfl
theorem dL_law_994 : decode code 994 = .ok (.if_icmp .eq 998, 3) := by decide +kernel
set_option maxRecDepth 100000 in
set_option maxHeartbeats 4000000 in
theorem law_case_14 {p : Program} {e : Env} {s : State} {m : MethodId} {below : List Frame} {meth : Method} {c : Code} {l : Launch} {D : va_G} {cA : Nat → ClassId} {b : Nat} {xs : Nat → Int32} (X : gCx p s m #[Value.ref b] meth c s.heap.size D cA "ParishUnionLaw" code 4) (hr : meth.sig.returnType = ret) (hb : b < s.heap.size ∧ va_X b 7 xs s s.heap) {M : gM} (hFr : gFr M) : G p l e room_1 s m #[Value.ref b] below meth c s.heap.size D cA 4 (lw_Z below #[Value.ref b] s) 206 87467 M 206 976 [(3, gJ 0), (2, gA s.heap.size 190), (1, gA s.heap.size 0), (0, .ref b)] [] := by
  have rents := gFr_rents hFr
  have way := gFr_way hFr
  have beds := gFr_beds hFr
  have frost0 := gFr_frost0 hFr
  have rows0 := gFr_rows0 hFr
  have rooms0 := gFr_rooms0 hFr
  have tape0 := gFr_tape0 hFr
  have car0 := gFr_car0 hFr
  have hS := gFr_hS hFr
  obtain ⟨v0, e0, r0⟩ : ∃ z : Int, xs 0 = Int32.ofInt z ∧ -2147483648 ≤ z ∧ z ≤ 2147483647 := ⟨_, gi_of _, gi_rg _⟩
  obtain ⟨v1, e1, r1⟩ : ∃ z : Int, xs 1 = Int32.ofInt z ∧ -2147483648 ≤ z ∧ z ≤ 2147483647 := ⟨_, gi_of _, gi_rg _⟩
  obtain ⟨v2, e2, r2⟩ : ∃ z : Int, xs 2 = Int32.ofInt z ∧ -2147483648 ≤ z ∧ z ≤ 2147483647 := ⟨_, gi_of _, gi_rg _⟩
  obtain ⟨v3, e3, r3⟩ : ∃ z : Int, xs 3 = Int32.ofInt z ∧ -2147483648 ≤ z ∧ z ≤ 2147483647 := ⟨_, gi_of _, gi_rg _⟩
  obtain ⟨v4, e4, r4⟩ : ∃ z : Int, xs 4 = Int32.ofInt z ∧ -2147483648 ≤ z ∧ z ≤ 2147483647 := ⟨_, gi_of _, gi_rg _⟩
  obtain ⟨v5, e5, r5⟩ : ∃ z : Int, xs 5 = Int32.ofInt z ∧ -2147483648 ≤ z ∧ z ≤ 2147483647 := ⟨_, gi_of _, gi_rg _⟩
  obtain ⟨v6, e6, r6⟩ : ∃ z : Int, xs 6 = Int32.ofInt z ∧ -2147483648 ≤ z ∧ z ≤ 2147483647 := ⟨_, gi_of _, gi_rg _⟩
  refine g_aload_n (n := 977) X 2 dL_law_976 rfl rfl rfl ?_
  refine g_aload_n (n := 978) X 3 dL_law_977 rfl rfl rfl ?_
  refine g_iload_n (n := 979) X 0 dL_law_978 rfl rfl rfl ?_
  refine g_iconst (n := 980) X dL_law_979 rfl ?_
  refine g_iadd (n := 981) (z := 1) X dL_law_980 rfl rfl ?_
  refine g_scrld (n := 982) (z := v1) X hb (by omega) (by omega) (by omega) dL_law_981 rfl e1 ?_
  refine g_callVi (n := 985) (As := [gJ v1]) (rest := []) (cs1 := 206) (ss1 := 87467) X (c_X11_text v1 (by omega) (by omega) (gFr_0_0 hFr) (gFr_1_3 hFr) (gFr_1_13 hFr) (gFr_7_0 hFr) (gFr_1_4 hFr) (gFr_1_14 hFr) (gFr_0_2 hFr) (gFr_87_0 hFr) (gFr_87_1 hFr)) okX11_text kw_3_195 ⟨kw_3_196, kw_3_197⟩ ⟨rfl, rfl⟩ ⟨Nat.le_of_ble_eq_true rfl, Nat.le_of_ble_eq_true rfl⟩ rfl (by omega) (by omega) lay_0 rfl rfl (Nat.le_of_ble_eq_true rfl) ⟨Nat.le_of_ble_eq_true rfl, Nat.le_of_ble_eq_true rfl⟩ rfl rfl dL_law_982 rfl (fun z1 M2 P3 => ?_)
  obtain ⟨P3, F4⟩ := P3
  refine g_aload_n (n := 986) X 1 dL_law_985 rfl rfl rfl ?_
  refine g_aload_n (n := 987) X 3 dL_law_986 rfl rfl rfl ?_
  refine g_iload_n (n := 988) X 0 dL_law_987 rfl rfl rfl ?_
  refine g_iconst (n := 989) X dL_law_988 rfl ?_
  refine g_iadd (n := 990) (z := 1) X dL_law_989 rfl rfl ?_
  refine g_scrld (n := 991) (z := v1) X hb (by omega) (by omega) (by omega) dL_law_990 rfl e1 ?_
  refine g_callVi (n := 994) (As := [gJ v1]) (rest := [gJ z1]) (cs1 := 206) (ss1 := 87467) X (c_X12_text v1 (by omega) (by omega) ((congrFun (F4 190 (by omega) (by omega) (by omega) (by omega) (by omega) (by omega)) _).trans (gFr_190_1 hFr)) ((congrFun (F4 191 (by omega) (by omega) (by omega) (by omega) (by omega) (by omega)) _).trans ((hS 4 (by omega) (by omega)).trans (by decide))) ((congrFun (F4 191 (by omega) (by omega) (by omega) (by omega) (by omega) (by omega)) _).trans ((hS 10 (by omega) (by omega)).trans (by decide)))) okX12_text kw_6_232 ⟨kw_6_233, kw_6_234⟩ ⟨rfl, rfl⟩ ⟨Nat.le_of_ble_eq_true rfl, Nat.le_of_ble_eq_true rfl⟩ rfl (by omega) (by omega) lay_190 rfl rfl (Nat.le_of_ble_eq_true rfl) ⟨Nat.le_of_ble_eq_true rfl, Nat.le_of_ble_eq_true rfl⟩ rfl rfl dL_law_991 rfl (fun z5 M6 P7 => ?_)
  obtain ⟨P7, F8⟩ := P7
  refine g_icmp_eq (n := 997) (tgt := 1992) X dL_law_994 (by decide) (by omega) (by omega) rfl (fun c9 => ?_) (fun c9 => by exfalso; omega)
  exact law_tail X hr hb (by omega) (by omega)
theorem dL_law_999 : decode code 999 = .ok (.aload_n 1, 1) := by decide +kernel
theorem dL_law_1000 : decode code 1000 = .ok (.aload_n 0, 1) := by decide +kernel
theorem dL_law_1001 : decode code 1001 = .ok (.iload_n 3, 1) := by decide +kernel
theorem dL_law_1002 : decode code 1002 = .ok (.iconst 1, 1) := by decide +kernel
theorem dL_law_1003 : decode code 1003 = .ok (.iadd, 1) := by decide +kernel
theorem dL_law_1004 : decode code 1004 = .ok (.iaload, 1) := by decide +kernel
theorem dL_law_1005 : decode code 1005 = .ok (.aload_n 0, 1) := by decide +kernel
theorem dL_law_1006 : decode code 1006 = .ok (.iload_n 3, 1) := by decide +kernel
theorem dL_law_1007 : decode code 1007 = .ok (.iconst 2, 1) := by decide +kernel
theorem dL_law_1008 : decode code 1008 = .ok (.iadd, 1) := by decide +kernel
theorem dL_law_1009 : decode code 1009 = .ok (.iaload, 1) := by decide +kernel
theorem dL_law_1010 : decode code 1010 = .ok (.invokevirtual 85, 3) := by decide +kernel
theorem kw_4_87 : (Jvm.Cond.methodLink "ParishUnionLaw" (85 : Nat) ({ cls := "ParishUnion", name := "force", desc := "(II)I" } : Jvm.MethodName)) ∈ gT := gT_of (tb_4 _ (List.mem_of_getElem? (i := 87) rfl)) rfl
theorem kw_4_90 : (Jvm.Cond.code ({ cls := "ParishUnion", name := "force", desc := "(II)I" } : Jvm.MethodName) prog_1_method_17_code (3 : Nat) (Option.some Jvm.ClassFile.FieldType.int)) ∈ gT := gT_of (tb_4 _ (List.mem_of_getElem? (i := 90) rfl)) rfl
theorem okX11_force : gQok yX11_force cX11_force 3 (Option.some Jvm.ClassFile.FieldType.int) 2 := ⟨kw_4_90, kw_1_1, by decide +kernel, by decide +kernel, by decide +kernel⟩
theorem kw_4_88 : (Jvm.Cond.instanceMethod ({ cls := "ParishUnion", name := "force", desc := "(II)I" } : Jvm.MethodName)) ∈ gT := gT_of (tb_4 _ (List.mem_of_getElem? (i := 88) rfl)) rfl
theorem kw_4_89 : (Jvm.Cond.selects "ParishUnion" ({ cls := "ParishUnion", name := "force", desc := "(II)I" } : Jvm.MethodName) ({ cls := "ParishUnion", name := "force", desc := "(II)I" } : Jvm.MethodName)) ∈ gT := gT_of (tb_4 _ (List.mem_of_getElem? (i := 89) rfl)) rfl
theorem dL_law_1013 : decode code 1013 = .ok (.aload_n 2, 1) := by decide +kernel
theorem dL_law_1014 : decode code 1014 = .ok (.aload_n 0, 1) := by decide +kernel
theorem dL_law_1015 : decode code 1015 = .ok (.iload_n 3, 1) := by decide +kernel
theorem dL_law_1016 : decode code 1016 = .ok (.iconst 1, 1) := by decide +kernel
theorem dL_law_1017 : decode code 1017 = .ok (.iadd, 1) := by decide +kernel
theorem dL_law_1018 : decode code 1018 = .ok (.iaload, 1) := by decide +kernel
theorem dL_law_1019 : decode code 1019 = .ok (.aload_n 0, 1) := by decide +kernel
theorem dL_law_1020 : decode code 1020 = .ok (.iload_n 3, 1) := by decide +kernel
theorem dL_law_1021 : decode code 1021 = .ok (.iconst 2, 1) := by decide +kernel
theorem dL_law_1022 : decode code 1022 = .ok (.iadd, 1) := by decide +kernel
theorem dL_law_1023 : decode code 1023 = .ok (.iaload, 1) := by decide +kernel
theorem dL_law_1024 : decode code 1024 = .ok (.invokevirtual 88, 3) := by decide +kernel
theorem kw_7_70 : (Jvm.Cond.methodLink "ParishUnionLaw" (88 : Nat) ({ cls := "ParishUnionModel", name := "force", desc := "(II)I" } : Jvm.MethodName)) ∈ gT := gT_of (tb_7 _ (List.mem_of_getElem? (i := 70) rfl)) rfl
theorem kw_7_73 : (Jvm.Cond.code ({ cls := "ParishUnionModel", name := "force", desc := "(II)I" } : Jvm.MethodName) prog_14_method_55_code (3 : Nat) (Option.some Jvm.ClassFile.FieldType.int)) ∈ gT := gT_of (tb_7 _ (List.mem_of_getElem? (i := 73) rfl)) rfl
theorem okX12_force : gQok yX12_force cX12_force 3 (Option.some Jvm.ClassFile.FieldType.int) 2 := ⟨kw_7_73, kw_1_13, by decide +kernel, by decide +kernel, by decide +kernel⟩
theorem kw_7_71 : (Jvm.Cond.instanceMethod ({ cls := "ParishUnionModel", name := "force", desc := "(II)I" } : Jvm.MethodName)) ∈ gT := gT_of (tb_7 _ (List.mem_of_getElem? (i := 71) rfl)) rfl
theorem kw_7_72 : (Jvm.Cond.selects "ParishUnionModel" ({ cls := "ParishUnionModel", name := "force", desc := "(II)I" } : Jvm.MethodName) ({ cls := "ParishUnionModel", name := "force", desc := "(II)I" } : Jvm.MethodName)) ∈ gT := gT_of (tb_7 _ (List.mem_of_getElem? (i := 72) rfl)) rfl
theorem dL_law_1027 : decode code 1027 = .ok (.if_icmp .eq 965, 3) := by decide +kernel
set_option maxRecDepth 100000 in
set_option maxHeartbeats 4000000 in
theorem law_case_15 {p : Program} {e : Env} {s : State} {m : MethodId} {below : List Frame} {meth : Method} {c : Code} {l : Launch} {D : va_G} {cA : Nat → ClassId} {b : Nat} {xs : Nat → Int32} (X : gCx p s m #[Value.ref b] meth c s.heap.size D cA "ParishUnionLaw" code 4) (hr : meth.sig.returnType = ret) (hb : b < s.heap.size ∧ va_X b 7 xs s s.heap) {M : gM} (hFr : gFr M) : G p l e room_1 s m #[Value.ref b] below meth c s.heap.size D cA 4 (lw_Z below #[Value.ref b] s) 206 87467 M 206 999 [(3, gJ 0), (2, gA s.heap.size 190), (1, gA s.heap.size 0), (0, .ref b)] [] := by
  have rents := gFr_rents hFr
  have way := gFr_way hFr
  have beds := gFr_beds hFr
  have frost0 := gFr_frost0 hFr
  have rows0 := gFr_rows0 hFr
  have rooms0 := gFr_rooms0 hFr
  have tape0 := gFr_tape0 hFr
  have car0 := gFr_car0 hFr
  have hS := gFr_hS hFr
  obtain ⟨v0, e0, r0⟩ : ∃ z : Int, xs 0 = Int32.ofInt z ∧ -2147483648 ≤ z ∧ z ≤ 2147483647 := ⟨_, gi_of _, gi_rg _⟩
  obtain ⟨v1, e1, r1⟩ : ∃ z : Int, xs 1 = Int32.ofInt z ∧ -2147483648 ≤ z ∧ z ≤ 2147483647 := ⟨_, gi_of _, gi_rg _⟩
  obtain ⟨v2, e2, r2⟩ : ∃ z : Int, xs 2 = Int32.ofInt z ∧ -2147483648 ≤ z ∧ z ≤ 2147483647 := ⟨_, gi_of _, gi_rg _⟩
  obtain ⟨v3, e3, r3⟩ : ∃ z : Int, xs 3 = Int32.ofInt z ∧ -2147483648 ≤ z ∧ z ≤ 2147483647 := ⟨_, gi_of _, gi_rg _⟩
  obtain ⟨v4, e4, r4⟩ : ∃ z : Int, xs 4 = Int32.ofInt z ∧ -2147483648 ≤ z ∧ z ≤ 2147483647 := ⟨_, gi_of _, gi_rg _⟩
  obtain ⟨v5, e5, r5⟩ : ∃ z : Int, xs 5 = Int32.ofInt z ∧ -2147483648 ≤ z ∧ z ≤ 2147483647 := ⟨_, gi_of _, gi_rg _⟩
  obtain ⟨v6, e6, r6⟩ : ∃ z : Int, xs 6 = Int32.ofInt z ∧ -2147483648 ≤ z ∧ z ≤ 2147483647 := ⟨_, gi_of _, gi_rg _⟩
  refine g_aload_n (n := 1000) X 2 dL_law_999 rfl rfl rfl ?_
  refine g_aload_n (n := 1001) X 3 dL_law_1000 rfl rfl rfl ?_
  refine g_iload_n (n := 1002) X 0 dL_law_1001 rfl rfl rfl ?_
  refine g_iconst (n := 1003) X dL_law_1002 rfl ?_
  refine g_iadd (n := 1004) (z := 1) X dL_law_1003 rfl rfl ?_
  refine g_scrld (n := 1005) (z := v1) X hb (by omega) (by omega) (by omega) dL_law_1004 rfl e1 ?_
  refine g_aload_n (n := 1006) X 3 dL_law_1005 rfl rfl rfl ?_
  refine g_iload_n (n := 1007) X 0 dL_law_1006 rfl rfl rfl ?_
  refine g_iconst (n := 1008) X dL_law_1007 rfl ?_
  refine g_iadd (n := 1009) (z := 2) X dL_law_1008 rfl rfl ?_
  refine g_scrld (n := 1010) (z := v2) X hb (by omega) (by omega) (by omega) dL_law_1009 rfl e2 ?_
  refine g_callVi (n := 1013) (As := [gJ v1, gJ v2]) (rest := []) (cs1 := 206) (ss1 := 87467) X (c_X11_force v1 v2 (by omega) (by omega) (by omega) (gFr_0_0 hFr) (gFr_1_13 hFr)) okX11_force kw_4_87 ⟨kw_4_88, kw_4_89⟩ ⟨rfl, rfl⟩ ⟨Nat.le_of_ble_eq_true rfl, Nat.le_of_ble_eq_true rfl⟩ rfl (by omega) (by omega) lay_0 rfl rfl (Nat.le_of_ble_eq_true rfl) ⟨Nat.le_of_ble_eq_true rfl, Nat.le_of_ble_eq_true rfl⟩ rfl rfl dL_law_1010 rfl (fun z1 M2 P3 => ?_)
  obtain ⟨P3, F4⟩ := P3
  refine g_aload_n (n := 1014) X 1 dL_law_1013 rfl rfl rfl ?_
  refine g_aload_n (n := 1015) X 3 dL_law_1014 rfl rfl rfl ?_
  refine g_iload_n (n := 1016) X 0 dL_law_1015 rfl rfl rfl ?_
  refine g_iconst (n := 1017) X dL_law_1016 rfl ?_
  refine g_iadd (n := 1018) (z := 1) X dL_law_1017 rfl rfl ?_
  refine g_scrld (n := 1019) (z := v1) X hb (by omega) (by omega) (by omega) dL_law_1018 rfl e1 ?_
  refine g_aload_n (n := 1020) X 3 dL_law_1019 rfl rfl rfl ?_
  refine g_iload_n (n := 1021) X 0 dL_law_1020 rfl rfl rfl ?_
  refine g_iconst (n := 1022) X dL_law_1021 rfl ?_
  refine g_iadd (n := 1023) (z := 2) X dL_law_1022 rfl rfl ?_
  refine g_scrld (n := 1024) (z := v2) X hb (by omega) (by omega) (by omega) dL_law_1023 rfl e2 ?_
  refine g_callVi (n := 1027) (As := [gJ v1, gJ v2]) (rest := [gJ z1]) (cs1 := 206) (ss1 := 87467) X (c_X12_force v1 v2 (by omega) (by omega) (by omega) ((congrFun (F4 190) _).trans (gFr_190_1 hFr)) ((congrFun (F4 191) _).trans ((hS 4 (by omega) (by omega)).trans (by decide)))) okX12_force kw_7_70 ⟨kw_7_71, kw_7_72⟩ ⟨rfl, rfl⟩ ⟨Nat.le_of_ble_eq_true rfl, Nat.le_of_ble_eq_true rfl⟩ rfl (by omega) (by omega) lay_190 rfl rfl (Nat.le_of_ble_eq_true rfl) ⟨Nat.le_of_ble_eq_true rfl, Nat.le_of_ble_eq_true rfl⟩ rfl rfl dL_law_1024 rfl (fun z5 M6 P7 => ?_)
  obtain ⟨P7, F8⟩ := P7
  refine g_icmp_eq (n := 1030) (tgt := 1992) X dL_law_1027 (by decide) (by omega) (by omega) rfl (fun c9 => ?_) (fun c9 => by exfalso; omega)
  exact law_tail X hr hb (by omega) (by omega)
