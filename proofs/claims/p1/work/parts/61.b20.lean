theorem dL_law_1164 : decode code 1164 = .ok (.aload_n 1, 1) := by decide +kernel
theorem dL_law_1165 : decode code 1165 = .ok (.aload_n 0, 1) := by decide +kernel
theorem dL_law_1166 : decode code 1166 = .ok (.iload_n 3, 1) := by decide +kernel
theorem dL_law_1167 : decode code 1167 = .ok (.iconst 1, 1) := by decide +kernel
theorem dL_law_1168 : decode code 1168 = .ok (.iadd, 1) := by decide +kernel
theorem dL_law_1169 : decode code 1169 = .ok (.iaload, 1) := by decide +kernel
theorem dL_law_1170 : decode code 1170 = .ok (.invokevirtual 105, 3) := by decide +kernel
theorem kw_4_151 : (Jvm.Cond.methodLink "ParishUnionLaw" (105 : Nat) ({ cls := "ParishUnion", name := "carry", desc := "(I)I" } : Jvm.MethodName)) ∈ gT := gT_of (tb_4 _ (List.mem_of_getElem? (i := 151) rfl)) rfl
theorem kw_4_154 : (Jvm.Cond.code ({ cls := "ParishUnion", name := "carry", desc := "(I)I" } : Jvm.MethodName) prog_1_method_22_code (4 : Nat) (Option.some Jvm.ClassFile.FieldType.int)) ∈ gT := gT_of (tb_4 _ (List.mem_of_getElem? (i := 154) rfl)) rfl
theorem okX11_carry : gQok yX11_carry cX11_carry 4 (Option.some Jvm.ClassFile.FieldType.int) 1 := ⟨kw_4_154, kw_1_1, by decide +kernel, by decide +kernel, by decide +kernel⟩
theorem kw_4_152 : (Jvm.Cond.instanceMethod ({ cls := "ParishUnion", name := "carry", desc := "(I)I" } : Jvm.MethodName)) ∈ gT := gT_of (tb_4 _ (List.mem_of_getElem? (i := 152) rfl)) rfl
theorem kw_4_153 : (Jvm.Cond.selects "ParishUnion" ({ cls := "ParishUnion", name := "carry", desc := "(I)I" } : Jvm.MethodName) ({ cls := "ParishUnion", name := "carry", desc := "(I)I" } : Jvm.MethodName)) ∈ gT := gT_of (tb_4 _ (List.mem_of_getElem? (i := 153) rfl)) rfl
theorem dL_law_1173 : decode code 1173 = .ok (.aload_n 2, 1) := by decide +kernel
theorem dL_law_1174 : decode code 1174 = .ok (.aload_n 0, 1) := by decide +kernel
theorem dL_law_1175 : decode code 1175 = .ok (.iload_n 3, 1) := by decide +kernel
theorem dL_law_1176 : decode code 1176 = .ok (.iconst 1, 1) := by decide +kernel
theorem dL_law_1177 : decode code 1177 = .ok (.iadd, 1) := by decide +kernel
theorem dL_law_1178 : decode code 1178 = .ok (.iaload, 1) := by decide +kernel
theorem dL_law_1179 : decode code 1179 = .ok (.invokevirtual 108, 3) := by decide +kernel
theorem kw_7_114 : (Jvm.Cond.methodLink "ParishUnionLaw" (108 : Nat) ({ cls := "ParishUnionModel", name := "carry", desc := "(I)I" } : Jvm.MethodName)) ∈ gT := gT_of (tb_7 _ (List.mem_of_getElem? (i := 114) rfl)) rfl
theorem kw_7_117 : (Jvm.Cond.code ({ cls := "ParishUnionModel", name := "carry", desc := "(I)I" } : Jvm.MethodName) prog_14_method_66_code (3 : Nat) (Option.some Jvm.ClassFile.FieldType.int)) ∈ gT := gT_of (tb_7 _ (List.mem_of_getElem? (i := 117) rfl)) rfl
theorem okX12_carry : gQok yX12_carry cX12_carry 3 (Option.some Jvm.ClassFile.FieldType.int) 1 := ⟨kw_7_117, kw_1_13, by decide +kernel, by decide +kernel, by decide +kernel⟩
theorem kw_7_115 : (Jvm.Cond.instanceMethod ({ cls := "ParishUnionModel", name := "carry", desc := "(I)I" } : Jvm.MethodName)) ∈ gT := gT_of (tb_7 _ (List.mem_of_getElem? (i := 115) rfl)) rfl
theorem kw_7_116 : (Jvm.Cond.selects "ParishUnionModel" ({ cls := "ParishUnionModel", name := "carry", desc := "(I)I" } : Jvm.MethodName) ({ cls := "ParishUnionModel", name := "carry", desc := "(I)I" } : Jvm.MethodName)) ∈ gT := gT_of (tb_7 _ (List.mem_of_getElem? (i := 116) rfl)) rfl
theorem dL_law_1182 : decode code 1182 = .ok (.if_icmp .eq 810, 3) := by decide +kernel
set_option maxRecDepth 100000 in
set_option maxHeartbeats 4000000 in
theorem law_case_20 {p : Program} {e : Env} {s : State} {m : MethodId} {below : List Frame} {meth : Method} {c : Code} {l : Launch} {D : va_G} {cA : Nat → ClassId} {b : Nat} {xs : Nat → Int32} (X : gCx p s m #[Value.ref b] meth c s.heap.size D cA "ParishUnionLaw" code 4) (hr : meth.sig.returnType = ret) (hb : b < s.heap.size ∧ va_X b 7 xs s s.heap) {M : gM} (hFr : gFr M) : G p l e room_1 s m #[Value.ref b] below meth c s.heap.size D cA 4 (lw_Z below #[Value.ref b] s) 206 87467 M 206 1164 [(3, gJ 0), (2, gA s.heap.size 190), (1, gA s.heap.size 0), (0, .ref b)] [] := by
  have rents := gFr_rents hFr
  have way := gFr_way hFr
  have beds := gFr_beds hFr
  have frost0 := gFr_frost0 hFr
  have rows0 := gFr_rows0 hFr
  have rooms0 := gFr_rooms0 hFr
  have tape0 := gFr_tape0 hFr
  have car0 := gFr_car0 hFr
  have hS := gFr_hS hFr
  obtain ⟨v0, e0, r0⟩ : ∃ z : Int, xs 0 = Int32.ofInt z ∧ -2147483648 ≤ z ∧ z ≤ 2147483647 := ⟨_, gi_of _, gi_rg _⟩
  obtain ⟨v1, e1, r1⟩ : ∃ z : Int, xs 1 = Int32.ofInt z ∧ -2147483648 ≤ z ∧ z ≤ 2147483647 := ⟨_, gi_of _, gi_rg _⟩
  obtain ⟨v2, e2, r2⟩ : ∃ z : Int, xs 2 = Int32.ofInt z ∧ -2147483648 ≤ z ∧ z ≤ 2147483647 := ⟨_, gi_of _, gi_rg _⟩
  obtain ⟨v3, e3, r3⟩ : ∃ z : Int, xs 3 = Int32.ofInt z ∧ -2147483648 ≤ z ∧ z ≤ 2147483647 := ⟨_, gi_of _, gi_rg _⟩
  obtain ⟨v4, e4, r4⟩ : ∃ z : Int, xs 4 = Int32.ofInt z ∧ -2147483648 ≤ z ∧ z ≤ 2147483647 := ⟨_, gi_of _, gi_rg _⟩
  obtain ⟨v5, e5, r5⟩ : ∃ z : Int, xs 5 = Int32.ofInt z ∧ -2147483648 ≤ z ∧ z ≤ 2147483647 := ⟨_, gi_of _, gi_rg _⟩
  obtain ⟨v6, e6, r6⟩ : ∃ z : Int, xs 6 = Int32.ofInt z ∧ -2147483648 ≤ z ∧ z ≤ 2147483647 := ⟨_, gi_of _, gi_rg _⟩
  refine g_aload_n (n := 1165) X 2 dL_law_1164 rfl rfl rfl ?_
  refine g_aload_n (n := 1166) X 3 dL_law_1165 rfl rfl rfl ?_
  refine g_iload_n (n := 1167) X 0 dL_law_1166 rfl rfl rfl ?_
  refine g_iconst (n := 1168) X dL_law_1167 rfl ?_
  refine g_iadd (n := 1169) (z := 1) X dL_law_1168 rfl rfl ?_
  refine g_scrld (n := 1170) (z := v1) X hb (by omega) (by omega) (by omega) dL_law_1169 rfl e1 ?_
  refine g_callVi (n := 1173) (As := [gJ v1]) (rest := []) (cs1 := 206) (ss1 := 87467) X (c_X11_carry v1 (by omega) (by omega) (gFr_0_0 hFr) (gFr_1_5 hFr) (gFr_9_5 hFr)) okX11_carry kw_4_151 ⟨kw_4_152, kw_4_153⟩ ⟨rfl, rfl⟩ ⟨Nat.le_of_ble_eq_true rfl, Nat.le_of_ble_eq_true rfl⟩ rfl (by omega) (by omega) lay_0 rfl rfl (Nat.le_of_ble_eq_true rfl) ⟨Nat.le_of_ble_eq_true rfl, Nat.le_of_ble_eq_true rfl⟩ rfl rfl dL_law_1170 rfl (fun z1 M2 P3 => ?_)
  obtain ⟨P3, F4⟩ := P3
  refine g_aload_n (n := 1174) X 1 dL_law_1173 rfl rfl rfl ?_
  refine g_aload_n (n := 1175) X 3 dL_law_1174 rfl rfl rfl ?_
  refine g_iload_n (n := 1176) X 0 dL_law_1175 rfl rfl rfl ?_
  refine g_iconst (n := 1177) X dL_law_1176 rfl ?_
  refine g_iadd (n := 1178) (z := 1) X dL_law_1177 rfl rfl ?_
  refine g_scrld (n := 1179) (z := v1) X hb (by omega) (by omega) (by omega) dL_law_1178 rfl e1 ?_
  refine g_callVi (n := 1182) (As := [gJ v1]) (rest := [gJ z1]) (cs1 := 206) (ss1 := 87467) X (c_X12_carry v1 (by omega) (by omega) ((congrFun (F4 190) _).trans (gFr_190_1 hFr)) ((congrFun (F4 191) _).trans ((hS 5 (by omega) (by omega)).trans (by decide)))) okX12_carry kw_7_114 ⟨kw_7_115, kw_7_116⟩ ⟨rfl, rfl⟩ ⟨Nat.le_of_ble_eq_true rfl, Nat.le_of_ble_eq_true rfl⟩ rfl (by omega) (by omega) lay_190 rfl rfl (Nat.le_of_ble_eq_true rfl) ⟨Nat.le_of_ble_eq_true rfl, Nat.le_of_ble_eq_true rfl⟩ rfl rfl dL_law_1179 rfl (fun z5 M6 P7 => ?_)
  obtain ⟨P7, F8⟩ := P7
  refine g_icmp_eq (n := 1185) (tgt := 1992) X dL_law_1182 (by decide) (by omega) (by omega) rfl (fun c9 => ?_) (fun c9 => by exfalso; omega)
  exact law_tail X hr hb (by omega) (by omega)
theorem dL_law_1187 : decode code 1187 = .ok (.aload_n 1, 1) := by decide +kernel
theorem dL_law_1188 : decode code 1188 = .ok (.aload_n 0, 1) := by decide +kernel
theorem dL_law_1189 : decode code 1189 = .ok (.iload_n 3, 1) := by decide +kernel
theorem dL_law_1190 : decode code 1190 = .ok (.iconst 1, 1) := by decide +kernel
theorem dL_law_1191 : decode code 1191 = .ok (.iadd, 1) := by decide +kernel
theorem dL_law_1192 : decode code 1192 = .ok (.iaload, 1) := by decide +kernel
theorem dL_law_1193 : decode code 1193 = .ok (.aload_n 0, 1) := by decide +kernel
theorem dL_law_1194 : decode code 1194 = .ok (.iload_n 3, 1) := by decide +kernel
theorem dL_law_1195 : decode code 1195 = .ok (.iconst 2, 1) := by decide +kernel
theorem dL_law_1196 : decode code 1196 = .ok (.iadd, 1) := by decide +kernel
theorem dL_law_1197 : decode code 1197 = .ok (.iaload, 1) := by decide +kernel
theorem dL_law_1198 : decode code 1198 = .ok (.invokevirtual 109, 3) := by decide +kernel
theorem kw_4_155 : (Jvm.Cond.methodLink "ParishUnionLaw" (109 : Nat) ({ cls := "ParishUnion", name := "house", desc := "(II)I" } : Jvm.MethodName)) ∈ gT := gT_of (tb_4 _ (List.mem_of_getElem? (i := 155) rfl)) rfl
theorem kw_4_158 : (Jvm.Cond.code ({ cls := "ParishUnion", name := "house", desc := "(II)I" } : Jvm.MethodName) prog_1_method_23_code (5 : Nat) (Option.some Jvm.ClassFile.FieldType.int)) ∈ gT := gT_of (tb_4 _ (List.mem_of_getElem? (i := 158) rfl)) rfl
theorem okX11_house : gQok yX11_house cX11_house 5 (Option.some Jvm.ClassFile.FieldType.int) 2 := ⟨kw_4_158, kw_1_1, by decide +kernel, by decide +kernel, by decide +kernel⟩
theorem kw_4_156 : (Jvm.Cond.instanceMethod ({ cls := "ParishUnion", name := "house", desc := "(II)I" } : Jvm.MethodName)) ∈ gT := gT_of (tb_4 _ (List.mem_of_getElem? (i := 156) rfl)) rfl
theorem kw_4_157 : (Jvm.Cond.selects "ParishUnion" ({ cls := "ParishUnion", name := "house", desc := "(II)I" } : Jvm.MethodName) ({ cls := "ParishUnion", name := "house", desc := "(II)I" } : Jvm.MethodName)) ∈ gT := gT_of (tb_4 _ (List.mem_of_getElem? (i := 157) rfl)) rfl
theorem dL_law_1201 : decode code 1201 = .ok (.aload_n 2, 1) := by decide +kernel
theorem dL_law_1202 : decode code 1202 = .ok (.aload_n 0, 1) := by decide +kernel
theorem dL_law_1203 : decode code 1203 = .ok (.iload_n 3, 1) := by decide +kernel
theorem dL_law_1204 : decode code 1204 = .ok (.iconst 1, 1) := by decide +kernel
theorem dL_law_1205 : decode code 1205 = .ok (.iadd, 1) := by decide +kernel
theorem dL_law_1206 : decode code 1206 = .ok (.iaload, 1) := by decide +kernel
theorem dL_law_1207 : decode code 1207 = .ok (.aload_n 0, 1) := by decide +kernel
theorem dL_law_1208 : decode code 1208 = .ok (.iload_n 3, 1) := by decide +kernel
theorem dL_law_1209 : decode code 1209 = .ok (.iconst 2, 1) := by decide +kernel
theorem dL_law_1210 : decode code 1210 = .ok (.iadd, 1) := by decide +kernel
theorem dL_law_1211 : decode code 1211 = .ok (.iaload, 1) := by decide +kernel
theorem dL_law_1212 : decode code 1212 = .ok (.invokevirtual 112, 3) := by decide +kernel
theorem kw_7_118 : (Jvm.Cond.methodLink "ParishUnionLaw" (112 : Nat) ({ cls := "ParishUnionModel", name := "house", desc := "(II)I" } : Jvm.MethodName)) ∈ gT := gT_of (tb_7 _ (List.mem_of_getElem? (i := 118) rfl)) rfl
theorem kw_7_121 : (Jvm.Cond.code ({ cls := "ParishUnionModel", name := "house", desc := "(II)I" } : Jvm.MethodName) prog_14_method_67_code (5 : Nat) (Option.some Jvm.ClassFile.FieldType.int)) ∈ gT := gT_of (tb_7 _ (List.mem_of_getElem? (i := 121) rfl)) rfl
theorem okX12_house : gQok yX12_house cX12_house 5 (Option.some Jvm.ClassFile.FieldType.int) 2 := ⟨kw_7_121, kw_1_13, by decide +kernel, by decide +kernel, by decide +kernel⟩
theorem kw_7_119 : (Jvm.Cond.instanceMethod ({ cls := "ParishUnionModel", name := "house", desc := "(II)I" } : Jvm.MethodName)) ∈ gT := gT_of (tb_7 _ (List.mem_of_getElem? (i := 119) rfl)) rfl
theorem kw_7_120 : (Jvm.Cond.selects "ParishUnionModel" ({ cls := "ParishUnionModel", name := "house", desc := "(II)I" } : Jvm.MethodName) ({ cls := "ParishUnionModel", name := "house", desc := "(II)I" } : Jvm.MethodName)) ∈ gT := gT_of (tb_7 _ (List.mem_of_getElem? (i := 120) rfl)) rfl
theorem dL_law_1215 : decode code 1215 = .ok (.if_icmp .eq 777, 3) := by decide +kernel
set_option maxRecDepth 100000 in
set_option maxHeartbeats 4000000 in
theorem law_case_21 {p : Program} {e : Env} {s : State} {m : MethodId} {below : List Frame} {meth : Method} {c : Code} {l : Launch} {D : va_G} {cA : Nat → ClassId} {b : Nat} {xs : Nat → Int32} (X : gCx p s m #[Value.ref b] meth c s.heap.size D cA "ParishUnionLaw" code 4) (hr : meth.sig.returnType = ret) (hb : b < s.heap.size ∧ va_X b 7 xs s s.heap) {M : gM} (hFr : gFr M) : G p l e room_1 s m #[Value.ref b] below meth c s.heap.size D cA 4 (lw_Z below #[Value.ref b] s) 206 87467 M 206 1187 [(3, gJ 0), (2, gA s.heap.size 190), (1, gA s.heap.size 0), (0, .ref b)] [] := by
  have rents := gFr_rents hFr
  have way := gFr_way hFr
  have beds := gFr_beds hFr
  have frost0 := gFr_frost0 hFr
  have rows0 := gFr_rows0 hFr
  have rooms0 := gFr_rooms0 hFr
  have tape0 := gFr_tape0 hFr
  have car0 := gFr_car0 hFr
  have hS := gFr_hS hFr
  obtain ⟨v0, e0, r0⟩ : ∃ z : Int, xs 0 = Int32.ofInt z ∧ -2147483648 ≤ z ∧ z ≤ 2147483647 := ⟨_, gi_of _, gi_rg _⟩
  obtain ⟨v1, e1, r1⟩ : ∃ z : Int, xs 1 = Int32.ofInt z ∧ -2147483648 ≤ z ∧ z ≤ 2147483647 := ⟨_, gi_of _, gi_rg _⟩
  obtain ⟨v2, e2, r2⟩ : ∃ z : Int, xs 2 = Int32.ofInt z ∧ -2147483648 ≤ z ∧ z ≤ 2147483647 := ⟨_, gi_of _, gi_rg _⟩
  obtain ⟨v3, e3, r3⟩ : ∃ z : Int, xs 3 = Int32.ofInt z ∧ -2147483648 ≤ z ∧ z ≤ 2147483647 := ⟨_, gi_of _, gi_rg _⟩
  obtain ⟨v4, e4, r4⟩ : ∃ z : Int, xs 4 = Int32.ofInt z ∧ -2147483648 ≤ z ∧ z ≤ 2147483647 := ⟨_, gi_of _, gi_rg _⟩
  obtain ⟨v5, e5, r5⟩ : ∃ z : Int, xs 5 = Int32.ofInt z ∧ -2147483648 ≤ z ∧ z ≤ 2147483647 := ⟨_, gi_of _, gi_rg _⟩
  obtain ⟨v6, e6, r6⟩ : ∃ z : Int, xs 6 = Int32.ofInt z ∧ -2147483648 ≤ z ∧ z ≤ 2147483647 := ⟨_, gi_of _, gi_rg _⟩
  refine g_aload_n (n := 1188) X 2 dL_law_1187 rfl rfl rfl ?_
  refine g_aload_n (n := 1189) X 3 dL_law_1188 rfl rfl rfl ?_
  refine g_iload_n (n := 1190) X 0 dL_law_1189 rfl rfl rfl ?_
  refine g_iconst (n := 1191) X dL_law_1190 rfl ?_
  refine g_iadd (n := 1192) (z := 1) X dL_law_1191 rfl rfl ?_
  refine g_scrld (n := 1193) (z := v1) X hb (by omega) (by omega) (by omega) dL_law_1192 rfl e1 ?_
  refine g_aload_n (n := 1194) X 3 dL_law_1193 rfl rfl rfl ?_
  refine g_iload_n (n := 1195) X 0 dL_law_1194 rfl rfl rfl ?_
  refine g_iconst (n := 1196) X dL_law_1195 rfl ?_
  refine g_iadd (n := 1197) (z := 2) X dL_law_1196 rfl rfl ?_
  refine g_scrld (n := 1198) (z := v2) X hb (by omega) (by omega) (by omega) dL_law_1197 rfl e2 ?_
  refine g_callVi (n := 1201) (As := [gJ v1, gJ v2]) (rest := []) (cs1 := 206) (ss1 := 87467) X (c_X11_house v1 v2 (by omega) (by omega) (by omega) (gFr_0_0 hFr) (gFr_1_6 hFr) (gFr_15_8 hFr) (gFr_15_0 hFr) beds) okX11_house kw_4_155 ⟨kw_4_156, kw_4_157⟩ ⟨rfl, rfl⟩ ⟨Nat.le_of_ble_eq_true rfl, Nat.le_of_ble_eq_true rfl⟩ rfl (by omega) (by omega) lay_0 rfl rfl (Nat.le_of_ble_eq_true rfl) ⟨Nat.le_of_ble_eq_true rfl, Nat.le_of_ble_eq_true rfl⟩ rfl rfl dL_law_1198 rfl (fun z1 M2 P3 => ?_)
  obtain ⟨P3, F4⟩ := P3
  refine g_aload_n (n := 1202) X 1 dL_law_1201 rfl rfl rfl ?_
  refine g_aload_n (n := 1203) X 3 dL_law_1202 rfl rfl rfl ?_
  refine g_iload_n (n := 1204) X 0 dL_law_1203 rfl rfl rfl ?_
  refine g_iconst (n := 1205) X dL_law_1204 rfl ?_
  refine g_iadd (n := 1206) (z := 1) X dL_law_1205 rfl rfl ?_
  refine g_scrld (n := 1207) (z := v1) X hb (by omega) (by omega) (by omega) dL_law_1206 rfl e1 ?_
  refine g_aload_n (n := 1208) X 3 dL_law_1207 rfl rfl rfl ?_
  refine g_iload_n (n := 1209) X 0 dL_law_1208 rfl rfl rfl ?_
  refine g_iconst (n := 1210) X dL_law_1209 rfl ?_
  refine g_iadd (n := 1211) (z := 2) X dL_law_1210 rfl rfl ?_
  refine g_scrld (n := 1212) (z := v2) X hb (by omega) (by omega) (by omega) dL_law_1211 rfl e2 ?_
  refine g_callVi (n := 1215) (As := [gJ v1, gJ v2]) (rest := [gJ z1]) (cs1 := 206) (ss1 := 87467) X (c_X12_house v1 v2 (by omega) (by omega) (by omega) ((congrFun (F4 190 (by omega) (by omega)) _).trans (gFr_190_1 hFr)) (fun i h0 h1 => (congrFun ((F4 191 (by omega) (by omega)).trans rfl) i).trans (hS i h0 h1))) okX12_house kw_7_118 ⟨kw_7_119, kw_7_120⟩ ⟨rfl, rfl⟩ ⟨Nat.le_of_ble_eq_true rfl, Nat.le_of_ble_eq_true rfl⟩ rfl (by omega) (by omega) lay_190 rfl rfl (Nat.le_of_ble_eq_true rfl) ⟨Nat.le_of_ble_eq_true rfl, Nat.le_of_ble_eq_true rfl⟩ rfl rfl dL_law_1212 rfl (fun z5 M6 P7 => ?_)
  obtain ⟨P7, F8⟩ := P7
  refine g_icmp_eq (n := 1218) (tgt := 1992) X dL_law_1215 (by decide) (by omega) (by omega) rfl (fun c9 => ?_) (fun c9 => by exfalso; omega)
  exact law_tail X hr hb (by omega) (by omega)
theorem dL_law_1220 : decode code 1220 = .ok (.aload_n 1, 1) := by decide +kernel
theorem dL_law_1221 : decode code 1221 = .ok (.aload_n 0, 1) := by decide +kernel
theorem dL_law_1222 : decode code 1222 = .ok (.iload_n 3, 1) := by decide +kernel
theorem dL_law_1223 : decode code 1223 = .ok (.iconst 1, 1) := by decide +kernel
theorem dL_law_1224 : decode code 1224 = .ok (.iadd, 1) := by decide +kernel
theorem dL_law_1225 : decode code 1225 = .ok (.iaload, 1) := by decide +kernel
theorem dL_law_1226 : decode code 1226 = .ok (.invokevirtual 113, 3) := by decide +kernel
theorem kw_4_159 : (Jvm.Cond.methodLink "ParishUnionLaw" (113 : Nat) ({ cls := "ParishUnion", name := "price", desc := "(I)I" } : Jvm.MethodName)) ∈ gT := gT_of (tb_4 _ (List.mem_of_getElem? (i := 159) rfl)) rfl
theorem kw_4_162 : (Jvm.Cond.code ({ cls := "ParishUnion", name := "price", desc := "(I)I" } : Jvm.MethodName) prog_1_method_24_code (3 : Nat) (Option.some Jvm.ClassFile.FieldType.int)) ∈ gT := gT_of (tb_4 _ (List.mem_of_getElem? (i := 162) rfl)) rfl
theorem okX11_price : gQok yX11_price cX11_price 3 (Option.some Jvm.ClassFile.FieldType.int) 1 := ⟨kw_4_162, kw_1_1, by decide +kernel, by decide +kernel, by decide +kernel⟩
theorem kw_4_160 : (Jvm.Cond.instanceMethod ({ cls := "ParishUnion", name := "price", desc := "(I)I" } : Jvm.MethodName)) ∈ gT := gT_of (tb_4 _ (List.mem_of_getElem? (i := 160) rfl)) rfl
theorem kw_4_161 : (Jvm.Cond.selects "ParishUnion" ({ cls := "ParishUnion", name := "price", desc := "(I)I" } : Jvm.MethodName) ({ cls := "ParishUnion", name := "price", desc := "(I)I" } : Jvm.MethodName)) ∈ gT := gT_of (tb_4 _ (List.mem_of_getElem? (i := 161) rfl)) rfl
theorem dL_law_1229 : decode code 1229 = .ok (.aload_n 2, 1) := by decide +kernel
theorem dL_law_1230 : decode code 1230 = .ok (.aload_n 0, 1) := by decide +kernel
theorem dL_law_1231 : decode code 1231 = .ok (.iload_n 3, 1) := by decide +kernel
theorem dL_law_1232 : decode code 1232 = .ok (.iconst 1, 1) := by decide +kernel
theorem dL_law_1233 : decode code 1233 = .ok (.iadd, 1) := by decide +kernel
theorem dL_law_1234 : decode code 1234 = .ok (.iaload, 1) := by decide +kernel
theorem dL_law_1235 : decode code 1235 = .ok (.invokevirtual 116, 3) := by decide +kernel
theorem kw_7_122 : (Jvm.Cond.methodLink "ParishUnionLaw" (116 : Nat) ({ cls := "ParishUnionModel", name := "price", desc := "(I)I" } : Jvm.MethodName)) ∈ gT := gT_of (tb_7 _ (List.mem_of_getElem? (i := 122) rfl)) rfl
theorem kw_7_125 : (Jvm.Cond.code ({ cls := "ParishUnionModel", name := "price", desc := "(I)I" } : Jvm.MethodName) prog_14_method_68_code (3 : Nat) (Option.some Jvm.ClassFile.FieldType.int)) ∈ gT := gT_of (tb_7 _ (List.mem_of_getElem? (i := 125) rfl)) rfl
theorem okX12_price : gQok yX12_price cX12_price 3 (Option.some Jvm.ClassFile.FieldType.int) 1 := ⟨kw_7_125, kw_1_13, by decide +kernel, by decide +kernel, by decide +kernel⟩
theorem kw_7_123 : (Jvm.Cond.instanceMethod ({ cls := "ParishUnionModel", name := "price", desc := "(I)I" } : Jvm.MethodName)) ∈ gT := gT_of (tb_7 _ (List.mem_of_getElem? (i := 123) rfl)) rfl
theorem kw_7_124 : (Jvm.Cond.selects "ParishUnionModel" ({ cls := "ParishUnionModel", name := "price", desc := "(I)I" } : Jvm.MethodName) ({ cls := "ParishUnionModel", name := "price", desc := "(I)I" } : Jvm.MethodName)) ∈ gT := gT_of (tb_7 _ (List.mem_of_getElem? (i := 124) rfl)) rfl
theorem dL_law_1238 : decode code 1238 = .ok (.if_icmp .eq 754, 3) := by decide +kernel
set_option maxRecDepth 100000 in
set_option maxHeartbeats 4000000 in
theorem law_case_22 {p : Program} {e : Env} {s : State} {m : MethodId} {below : List Frame} {meth : Method} {c : Code} {l : Launch} {D : va_G} {cA : Nat → ClassId} {b : Nat} {xs : Nat → Int32} (X : gCx p s m #[Value.ref b] meth c s.heap.size D cA "ParishUnionLaw" code 4) (hr : meth.sig.returnType = ret) (hb : b < s.heap.size ∧ va_X b 7 xs s s.heap) {M : gM} (hFr : gFr M) : G p l e room_1 s m #[Value.ref b] below meth c s.heap.size D cA 4 (lw_Z below #[Value.ref b] s) 206 87467 M 206 1220 [(3, gJ 0), (2, gA s.heap.size 190), (1, gA s.heap.size 0), (0, .ref b)] [] := by
  have rents := gFr_rents hFr
  have way := gFr_way hFr
  have beds := gFr_beds hFr
  have frost0 := gFr_frost0 hFr
  have rows0 := gFr_rows0 hFr
  have rooms0 := gFr_rooms0 hFr
  have tape0 := gFr_tape0 hFr
  have car0 := gFr_car0 hFr
  have hS := gFr_hS hFr
  obtain ⟨v0, e0, r0⟩ : ∃ z : Int, xs 0 = Int32.ofInt z ∧ -2147483648 ≤ z ∧ z ≤ 2147483647 := ⟨_, gi_of _, gi_rg _⟩
  obtain ⟨v1, e1, r1⟩ : ∃ z : Int, xs 1 = Int32.ofInt z ∧ -2147483648 ≤ z ∧ z ≤ 2147483647 := ⟨_, gi_of _, gi_rg _⟩
  obtain ⟨v2, e2, r2⟩ : ∃ z : Int, xs 2 = Int32.ofInt z ∧ -2147483648 ≤ z ∧ z ≤ 2147483647 := ⟨_, gi_of _, gi_rg _⟩
  obtain ⟨v3, e3, r3⟩ : ∃ z : Int, xs 3 = Int32.ofInt z ∧ -2147483648 ≤ z ∧ z ≤ 2147483647 := ⟨_, gi_of _, gi_rg _⟩
  obtain ⟨v4, e4, r4⟩ : ∃ z : Int, xs 4 = Int32.ofInt z ∧ -2147483648 ≤ z ∧ z ≤ 2147483647 := ⟨_, gi_of _, gi_rg _⟩
  obtain ⟨v5, e5, r5⟩ : ∃ z : Int, xs 5 = Int32.ofInt z ∧ -2147483648 ≤ z ∧ z ≤ 2147483647 := ⟨_, gi_of _, gi_rg _⟩
  obtain ⟨v6, e6, r6⟩ : ∃ z : Int, xs 6 = Int32.ofInt z ∧ -2147483648 ≤ z ∧ z ≤ 2147483647 := ⟨_, gi_of _, gi_rg _⟩
  refine g_aload_n (n := 1221) X 2 dL_law_1220 rfl rfl rfl ?_
  refine g_aload_n (n := 1222) X 3 dL_law_1221 rfl rfl rfl ?_
  refine g_iload_n (n := 1223) X 0 dL_law_1222 rfl rfl rfl ?_
  refine g_iconst (n := 1224) X dL_law_1223 rfl ?_
  refine g_iadd (n := 1225) (z := 1) X dL_law_1224 rfl rfl ?_
  refine g_scrld (n := 1226) (z := v1) X hb (by omega) (by omega) (by omega) dL_law_1225 rfl e1 ?_
  refine g_callVi (n := 1229) (As := [gJ v1]) (rest := []) (cs1 := 206) (ss1 := 87467) X (c_X11_price v1 (by omega) (by omega) (gFr_0_0 hFr) (gFr_1_6 hFr) (gFr_15_9 hFr)) okX11_price kw_4_159 ⟨kw_4_160, kw_4_161⟩ ⟨rfl, rfl⟩ ⟨Nat.le_of_ble_eq_true rfl, Nat.le_of_ble_eq_true rfl⟩ rfl (by omega) (by omega) lay_0 rfl rfl (Nat.le_of_ble_eq_true rfl) ⟨Nat.le_of_ble_eq_true rfl, Nat.le_of_ble_eq_true rfl⟩ rfl rfl dL_law_1226 rfl (fun z1 M2 P3 => ?_)
  obtain ⟨P3, F4⟩ := P3
  refine g_aload_n (n := 1230) X 1 dL_law_1229 rfl rfl rfl ?_
  refine g_aload_n (n := 1231) X 3 dL_law_1230 rfl rfl rfl ?_
  refine g_iload_n (n := 1232) X 0 dL_law_1231 rfl rfl rfl ?_
  refine g_iconst (n := 1233) X dL_law_1232 rfl ?_
  refine g_iadd (n := 1234) (z := 1) X dL_law_1233 rfl rfl ?_
  refine g_scrld (n := 1235) (z := v1) X hb (by omega) (by omega) (by omega) dL_law_1234 rfl e1 ?_
  refine g_callVi (n := 1238) (As := [gJ v1]) (rest := [gJ z1]) (cs1 := 206) (ss1 := 87467) X (c_X12_price v1 (by omega) (by omega) ((congrFun (F4 190 (by omega)) _).trans (gFr_190_1 hFr)) ((congrFun (F4 191 (by omega)) _).trans ((hS 9 (by omega) (by omega)).trans (by decide)))) okX12_price kw_7_122 ⟨kw_7_123, kw_7_124⟩ ⟨rfl, rfl⟩ ⟨Nat.le_of_ble_eq_true rfl, Nat.le_of_ble_eq_true rfl⟩ rfl (by omega) (by omega) lay_190 rfl rfl (Nat.le_of_ble_eq_true rfl) ⟨Nat.le_of_ble_eq_true rfl, Nat.le_of_ble_eq_true rfl⟩ rfl rfl dL_law_1235 rfl (fun z5 M6 P7 => ?_)
  obtain ⟨P7, F8⟩ := P7
  refine g_icmp_eq (n := 1241) (tgt := 1992) X dL_law_1238 (by decide) (by omega) (by omega) rfl (fun c9 => ?_) (fun c9 => by exfalso; omega)
  exact law_tail X hr hb (by omega) (by omega)
theorem dL_law_1243 : decode code 1243 = .ok (.aload_n 1, 1) := by decide +kernel
theorem dL_law_1244 : decode code 1244 = .ok (.aload_n 0, 1) := by decide +kernel
theorem dL_law_1245 : decode code 1245 = .ok (.iload_n 3, 1) := by decide +kernel
theorem dL_law_1246 : decode code 1246 = .ok (.iconst 1, 1) := by decide +kernel
theorem dL_law_1247 : decode code 1247 = .ok (.iadd, 1) := by decide +kernel
theorem dL_law_1248 : decode code 1248 = .ok (.iaload, 1) := by decide +kernel
theorem dL_law_1249 : decode code 1249 = .ok (.aload_n 0, 1) := by decide +kernel
theorem dL_law_1250 : decode code 1250 = .ok (.iload_n 3, 1) := by decide +kernel
theorem dL_law_1251 : decode code 1251 = .ok (.iconst 2, 1) := by decide +kernel
theorem dL_law_1252 : decode code 1252 = .ok (.iadd, 1) := by decide +kernel
theorem dL_law_1253 : decode code 1253 = .ok (.iaload, 1) := by decide +kernel
theorem dL_law_1254 : decode code 1254 = .ok (.invokevirtual 117, 3) := by decide +kernel
theorem kw_4_163 : (Jvm.Cond.methodLink "ParishUnionLaw" (117 : Nat) ({ cls := "ParishUnion", name := "frost", desc := "(II)I" } : Jvm.MethodName)) ∈ gT := gT_of (tb_4 _ (List.mem_of_getElem? (i := 163) rfl)) rfl
theorem kw_4_166 : (Jvm.Cond.code ({ cls := "ParishUnion", name := "frost", desc := "(II)I" } : Jvm.MethodName) prog_1_method_25_code (4 : Nat) (Option.some Jvm.ClassFile.FieldType.int)) ∈ gT := gT_of (tb_4 _ (List.mem_of_getElem? (i := 166) rfl)) rfl
theorem okX11_frost : gQok yX11_frost cX11_frost 4 (Option.some Jvm.ClassFile.FieldType.int) 2 := ⟨kw_4_166, kw_1_1, by decide +kernel, by decide +kernel, by decide +kernel⟩
theorem kw_4_164 : (Jvm.Cond.instanceMethod ({ cls := "ParishUnion", name := "frost", desc := "(II)I" } : Jvm.MethodName)) ∈ gT := gT_of (tb_4 _ (List.mem_of_getElem? (i := 164) rfl)) rfl
theorem kw_4_165 : (Jvm.Cond.selects "ParishUnion" ({ cls := "ParishUnion", name := "frost", desc := "(II)I" } : Jvm.MethodName) ({ cls := "ParishUnion", name := "frost", desc := "(II)I" } : Jvm.MethodName)) ∈ gT := gT_of (tb_4 _ (List.mem_of_getElem? (i := 165) rfl)) rfl
theorem dL_law_1257 : decode code 1257 = .ok (.aload_n 2, 1) := by decide +kernel
theorem dL_law_1258 : decode code 1258 = .ok (.aload_n 0, 1) := by decide +kernel
theorem dL_law_1259 : decode code 1259 = .ok (.iload_n 3, 1) := by decide +kernel
theorem dL_law_1260 : decode code 1260 = .ok (.iconst 1, 1) := by decide +kernel
theorem dL_law_1261 : decode code 1261 = .ok (.iadd, 1) := by decide +kernel
theorem dL_law_1262 : decode code 1262 = .ok (.iaload, 1) := by decide +kernel
theorem dL_law_1263 : decode code 1263 = .ok (.aload_n 0, 1) := by decide +kernel
theorem dL_law_1264 : decode code 1264 = .ok (.iload_n 3, 1) := by decide +kernel
theorem dL_law_1265 : decode code 1265 = .ok (.iconst 2, 1) := by decide +kernel
theorem dL_law_1266 : decode code 1266 = .ok (.iadd, 1) := by decide +kernel
theorem dL_law_1267 : decode code 1267 = .ok (.iaload, 1) := by decide +kernel
theorem dL_law_1268 : decode code 1268 = .ok (.invokevirtual 120, 3) := by decide +kernel
theorem kw_7_126 : (Jvm.Cond.methodLink "ParishUnionLaw" (120 : Nat) ({ cls := "ParishUnionModel", name := "frost", desc := "(II)I" } : Jvm.MethodName)) ∈ gT := gT_of (tb_7 _ (List.mem_of_getElem? (i := 126) rfl)) rfl
theorem kw_7_129 : (Jvm.Cond.code ({ cls := "ParishUnionModel", name := "frost", desc := "(II)I" } : Jvm.MethodName) prog_14_method_69_code (4 : Nat) (Option.some Jvm.ClassFile.FieldType.int)) ∈ gT := gT_of (tb_7 _ (List.mem_of_getElem? (i := 129) rfl)) rfl
theorem okX12_frost : gQok yX12_frost cX12_frost 4 (Option.some Jvm.ClassFile.FieldType.int) 2 := ⟨kw_7_129, kw_1_13, by decide +kernel, by decide +kernel, by decide +kernel⟩
theorem kw_7_127 : (Jvm.Cond.instanceMethod ({ cls := "ParishUnionModel", name := "frost", desc := "(II)I" } : Jvm.MethodName)) ∈ gT := gT_of (tb_7 _ (List.mem_of_getElem? (i := 127) rfl)) rfl
theorem kw_7_128 : (Jvm.Cond.selects "ParishUnionModel" ({ cls := "ParishUnionModel", name := "frost", desc := "(II)I" } : Jvm.MethodName) ({ cls := "ParishUnionModel", name := "frost", desc := "(II)I" } : Jvm.MethodName)) ∈ gT := gT_of (tb_7 _ (List.mem_of_getElem? (i := 128) rfl)) rfl
theorem dL_law_1271 : decode code 1271 = .ok (.if_icmp .eq 721, 3) := by decide +kernel
set_option maxRecDepth 100000 in
set_option maxHeartbeats 4000000 in
theorem law_case_23 {p : Program} {e : Env} {s : State} {m : MethodId} {below : List Frame} {meth : Method} {c : Code} {l : Launch} {D : va_G} {cA : Nat → ClassId} {b : Nat} {xs : Nat → Int32} (X : gCx p s m #[Value.ref b] meth c s.heap.size D cA "ParishUnionLaw" code 4) (hr : meth.sig.returnType = ret) (hb : b < s.heap.size ∧ va_X b 7 xs s s.heap) {M : gM} (hFr : gFr M) : G p l e room_1 s m #[Value.ref b] below meth c s.heap.size D cA 4 (lw_Z below #[Value.ref b] s) 206 87467 M 206 1243 [(3, gJ 0), (2, gA s.heap.size 190), (1, gA s.heap.size 0), (0, .ref b)] [] := by
  have rents := gFr_rents hFr
  have way := gFr_way hFr
  have beds := gFr_beds hFr
  have frost0 := gFr_frost0 hFr
  have rows0 := gFr_rows0 hFr
  have rooms0 := gFr_rooms0 hFr
  have tape0 := gFr_tape0 hFr
  have car0 := gFr_car0 hFr
  have hS := gFr_hS hFr
  obtain ⟨v0, e0, r0⟩ : ∃ z : Int, xs 0 = Int32.ofInt z ∧ -2147483648 ≤ z ∧ z ≤ 2147483647 := ⟨_, gi_of _, gi_rg _⟩
  obtain ⟨v1, e1, r1⟩ : ∃ z : Int, xs 1 = Int32.ofInt z ∧ -2147483648 ≤ z ∧ z ≤ 2147483647 := ⟨_, gi_of _, gi_rg _⟩
  obtain ⟨v2, e2, r2⟩ : ∃ z : Int, xs 2 = Int32.ofInt z ∧ -2147483648 ≤ z ∧ z ≤ 2147483647 := ⟨_, gi_of _, gi_rg _⟩
  obtain ⟨v3, e3, r3⟩ : ∃ z : Int, xs 3 = Int32.ofInt z ∧ -2147483648 ≤ z ∧ z ≤ 2147483647 := ⟨_, gi_of _, gi_rg _⟩
  obtain ⟨v4, e4, r4⟩ : ∃ z : Int, xs 4 = Int32.ofInt z ∧ -2147483648 ≤ z ∧ z ≤ 2147483647 := ⟨_, gi_of _, gi_rg _⟩
  obtain ⟨v5, e5, r5⟩ : ∃ z : Int, xs 5 = Int32.ofInt z ∧ -2147483648 ≤ z ∧ z ≤ 2147483647 := ⟨_, gi_of _, gi_rg _⟩
  obtain ⟨v6, e6, r6⟩ : ∃ z : Int, xs 6 = Int32.ofInt z ∧ -2147483648 ≤ z ∧ z ≤ 2147483647 := ⟨_, gi_of _, gi_rg _⟩
  refine g_aload_n (n := 1244) X 2 dL_law_1243 rfl rfl rfl ?_
  refine g_aload_n (n := 1245) X 3 dL_law_1244 rfl rfl rfl ?_
  refine g_iload_n (n := 1246) X 0 dL_law_1245 rfl rfl rfl ?_
  refine g_iconst (n := 1247) X dL_law_1246 rfl ?_
  refine g_iadd (n := 1248) (z := 1) X dL_law_1247 rfl rfl ?_
  refine g_scrld (n := 1249) (z := v1) X hb (by omega) (by omega) (by omega) dL_law_1248 rfl e1 ?_
  refine g_aload_n (n := 1250) X 3 dL_law_1249 rfl rfl rfl ?_
  refine g_iload_n (n := 1251) X 0 dL_law_1250 rfl rfl rfl ?_
  refine g_iconst (n := 1252) X dL_law_1251 rfl ?_
  refine g_iadd (n := 1253) (z := 2) X dL_law_1252 rfl rfl ?_
  refine g_scrld (n := 1254) (z := v2) X hb (by omega) (by omega) (by omega) dL_law_1253 rfl e2 ?_
  refine g_callVi (n := 1257) (As := [gJ v1, gJ v2]) (rest := []) (cs1 := 206) (ss1 := 87467) X (c_X11_frost v1 v2 (by omega) (by omega) (by omega) (gFr_0_0 hFr) (gFr_1_6 hFr) (gFr_1_15 hFr) (gFr_15_1 hFr) frost0) okX11_frost kw_4_163 ⟨kw_4_164, kw_4_165⟩ ⟨rfl, rfl⟩ ⟨Nat.le_of_ble_eq_true rfl, Nat.le_of_ble_eq_true rfl⟩ rfl (by omega) (by omega) lay_0 rfl rfl (Nat.le_of_ble_eq_true rfl) ⟨Nat.le_of_ble_eq_true rfl, Nat.le_of_ble_eq_true rfl⟩ rfl rfl dL_law_1254 rfl (fun z1 M2 P3 => ?_)
  obtain ⟨P3, F4⟩ := P3
  refine g_aload_n (n := 1258) X 1 dL_law_1257 rfl rfl rfl ?_
  refine g_aload_n (n := 1259) X 3 dL_law_1258 rfl rfl rfl ?_
  refine g_iload_n (n := 1260) X 0 dL_law_1259 rfl rfl rfl ?_
  refine g_iconst (n := 1261) X dL_law_1260 rfl ?_
  refine g_iadd (n := 1262) (z := 1) X dL_law_1261 rfl rfl ?_
  refine g_scrld (n := 1263) (z := v1) X hb (by omega) (by omega) (by omega) dL_law_1262 rfl e1 ?_
  refine g_aload_n (n := 1264) X 3 dL_law_1263 rfl rfl rfl ?_
  refine g_iload_n (n := 1265) X 0 dL_law_1264 rfl rfl rfl ?_
  refine g_iconst (n := 1266) X dL_law_1265 rfl ?_
  refine g_iadd (n := 1267) (z := 2) X dL_law_1266 rfl rfl ?_
  refine g_scrld (n := 1268) (z := v2) X hb (by omega) (by omega) (by omega) dL_law_1267 rfl e2 ?_
  refine g_callVi (n := 1271) (As := [gJ v1, gJ v2]) (rest := [gJ z1]) (cs1 := 206) (ss1 := 87467) X (c_X12_frost v1 v2 (by omega) (by omega) (by omega) ((congrFun (F4 190 (by omega)) _).trans (gFr_190_1 hFr)) (fun i h0 h1 => (congrFun ((F4 191 (by omega)).trans rfl) i).trans (hS i h0 h1))) okX12_frost kw_7_126 ⟨kw_7_127, kw_7_128⟩ ⟨rfl, rfl⟩ ⟨Nat.le_of_ble_eq_true rfl, Nat.le_of_ble_eq_true rfl⟩ rfl (by omega) (by omega) lay_190 rfl rfl (Nat.le_of_ble_eq_true rfl) ⟨Nat.le_of_ble_eq_true rfl, Nat.le_of_ble_eq_true rfl⟩ rfl rfl dL_law_1268 rfl (fun z5 M6 P7 => ?_)
  obtain ⟨P7, F8⟩ := P7
  refine g_icmp_eq (n := 1274) (tgt := 1992) X dL_law_1271 (by decide) (by omega) (by omega) rfl (fun c9 => ?_) (fun c9 => by exfalso; omega)
  exact law_tail X hr hb (by omega) (by omega)
