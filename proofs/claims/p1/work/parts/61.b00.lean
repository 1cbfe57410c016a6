theorem dL_law_232 : decode code 232 = .ok (.aload_n 1, 1) := by decide +kernel
theorem dL_law_233 : decode code 233 = .ok (.aload_n 0, 1) := by decide +kernel
theorem dL_law_234 : decode code 234 = .ok (.iload_n 3, 1) := by decide +kernel
theorem dL_law_235 : decode code 235 = .ok (.iconst 1, 1) := by decide +kernel
theorem dL_law_236 : decode code 236 = .ok (.iadd, 1) := by decide +kernel
theorem dL_law_237 : decode code 237 = .ok (.iaload, 1) := by decide +kernel
theorem dL_law_238 : decode code 238 = .ok (.aload_n 0, 1) := by decide +kernel
theorem dL_law_239 : decode code 239 = .ok (.iload_n 3, 1) := by decide +kernel
theorem dL_law_240 : decode code 240 = .ok (.iconst 2, 1) := by decide +kernel
theorem dL_law_241 : decode code 241 = .ok (.iadd, 1) := by decide +kernel
theorem dL_law_242 : decode code 242 = .ok (.iaload, 1) := by decide +kernel
theorem dL_law_243 : decode code 243 = .ok (.invokevirtual 13, 3) := by decide +kernel
theorem kw_3_22 : (Jvm.Cond.methodLink "ParishUnionLaw" (13 : Nat) ({ cls := "ParishUnion", name := "parish", desc := "(II)I" } : Jvm.MethodName)) ∈ gT := gT_of (tb_3 _ (List.mem_of_getElem? (i := 22) rfl)) rfl
theorem kw_3_25 : (Jvm.Cond.code ({ cls := "ParishUnion", name := "parish", desc := "(II)I" } : Jvm.MethodName) prog_1_method_2_code (4 : Nat) (Option.some Jvm.ClassFile.FieldType.int)) ∈ gT := gT_of (tb_3 _ (List.mem_of_getElem? (i := 25) rfl)) rfl
theorem okX11_parish : gQok yX11_parish cX11_parish 4 (Option.some Jvm.ClassFile.FieldType.int) 2 := ⟨kw_3_25, kw_1_1, by decide +kernel, by decide +kernel, by decide +kernel⟩
theorem kw_3_23 : (Jvm.Cond.instanceMethod ({ cls := "ParishUnion", name := "parish", desc := "(II)I" } : Jvm.MethodName)) ∈ gT := gT_of (tb_3 _ (List.mem_of_getElem? (i := 23) rfl)) rfl
theorem kw_3_24 : (Jvm.Cond.selects "ParishUnion" ({ cls := "ParishUnion", name := "parish", desc := "(II)I" } : Jvm.MethodName) ({ cls := "ParishUnion", name := "parish", desc := "(II)I" } : Jvm.MethodName)) ∈ gT := gT_of (tb_3 _ (List.mem_of_getElem? (i := 24) rfl)) rfl
theorem dL_law_246 : decode code 246 = .ok (.aload_n 2, 1) := by decide +kernel
theorem dL_law_247 : decode code 247 = .ok (.aload_n 0, 1) := by decide +kernel
theorem dL_law_248 : decode code 248 = .ok (.iload_n 3, 1) := by decide +kernel
theorem dL_law_249 : decode code 249 = .ok (.iconst 1, 1) := by decide +kernel
theorem dL_law_250 : decode code 250 = .ok (.iadd, 1) := by decide +kernel
theorem dL_law_251 : decode code 251 = .ok (.iaload, 1) := by decide +kernel
theorem dL_law_252 : decode code 252 = .ok (.aload_n 0, 1) := by decide +kernel
theorem dL_law_253 : decode code 253 = .ok (.iload_n 3, 1) := by decide +kernel
theorem dL_law_254 : decode code 254 = .ok (.iconst 2, 1) := by decide +kernel
theorem dL_law_255 : decode code 255 = .ok (.iadd, 1) := by decide +kernel
theorem dL_law_256 : decode code 256 = .ok (.iaload, 1) := by decide +kernel
theorem dL_law_257 : decode code 257 = .ok (.invokevirtual 17, 3) := by decide +kernel
theorem kw_6_99 : (Jvm.Cond.methodLink "ParishUnionLaw" (17 : Nat) ({ cls := "ParishUnionModel", name := "parish", desc := "(II)I" } : Jvm.MethodName)) ∈ gT := gT_of (tb_6 _ (List.mem_of_getElem? (i := 99) rfl)) rfl
theorem kw_6_102 : (Jvm.Cond.code ({ cls := "ParishUnionModel", name := "parish", desc := "(II)I" } : Jvm.MethodName) prog_14_method_9_code (4 : Nat) (Option.some Jvm.ClassFile.FieldType.int)) ∈ gT := gT_of (tb_6 _ (List.mem_of_getElem? (i := 102) rfl)) rfl
theorem okX12_parish : gQok yX12_parish cX12_parish 4 (Option.some Jvm.ClassFile.FieldType.int) 2 := ⟨kw_6_102, kw_1_13, by decide +kernel, by decide +kernel, by decide +kernel⟩
theorem kw_6_100 : (Jvm.Cond.instanceMethod ({ cls := "ParishUnionModel", name := "parish", desc := "(II)I" } : Jvm.MethodName)) ∈ gT := gT_of (tb_6 _ (List.mem_of_getElem? (i := 100) rfl)) rfl
theorem kw_6_101 : (Jvm.Cond.selects "ParishUnionModel" ({ cls := "ParishUnionModel", name := "parish", desc := "(II)I" } : Jvm.MethodName) ({ cls := "ParishUnionModel", name := "parish", desc := "(II)I" } : Jvm.MethodName)) ∈ gT := gT_of (tb_6 _ (List.mem_of_getElem? (i := 101) rfl)) rfl
theorem dL_law_260 : decode code 260 = .ok (.if_icmp .eq 1732, 3) := by decide +kernel
set_option maxRecDepth 100000 in
set_option maxHeartbeats 4000000 in
theorem law_case_0 {p : Program} {e : Env} {s : State} {m : MethodId} {below : List Frame} {meth : Method} {c : Code} {l : Launch} {D : va_G} {cA : Nat → ClassId} {b : Nat} {xs : Nat → Int32} (X : gCx p s m #[Value.ref b] meth c s.heap.size D cA "ParishUnionLaw" code 4) (hr : meth.sig.returnType = ret) (hb : b < s.heap.size ∧ va_X b 7 xs s s.heap) {M : gM} (hFr : gFr M) : G p l e room_1 s m #[Value.ref b] below meth c s.heap.size D cA 4 (lw_Z below #[Value.ref b] s) 206 87467 M 206 232 [(3, gJ 0), (2, gA s.heap.size 190), (1, gA s.heap.size 0), (0, .ref b)] [] := by
  obtain ⟨f_0_0, f_0_1, f_0_2, f_0_3, f_0_4, f_0_5, f_0_6, f_0_7, f_0_8, f_0_9, f_1_0, f_1_1, f_1_2, f_1_3, f_1_4, f_1_5, f_1_6, f_1_7, f_1_8, f_1_9, f_1_10, f_1_11, f_1_12, f_1_13, f_1_14, f_1_15, f_2_0, f_2_1, f_5_0, f_7_0, f_9_0, f_9_1, f_9_2, f_9_3, f_9_4, f_9_5, f_15_0, f_15_1, f_15_2, f_15_3, f_15_4, f_15_5, f_15_6, f_15_7, f_15_8, f_15_9, f_23_0, f_23_1, f_26_0, f_26_1, f_26_2, f_26_3, f_87_0, f_87_1, f_87_2, f_87_3, f_87_4, f_153_0, f_153_1, f_153_2, f_153_3, f_153_4, f_159_0, f_190_0, f_190_1, f_190_2, f_190_3, f_190_4, f_190_5, f_190_6, f_190_7, f_190_8, f_190_9, f_190_10, f_190_11, f_190_12, f_190_13, f_190_14, f_190_15, f_190_16, f_190_17, f_190_18, f_190_19, f_190_20, f_190_21, f_190_22, f_190_23, rents, way, beds, frost0, rows0, rooms0, tape0, car0, hS⟩ := hFr
  obtain ⟨v0, e0, r0⟩ : ∃ z : Int, xs 0 = Int32.ofInt z ∧ -2147483648 ≤ z ∧ z ≤ 2147483647 := ⟨_, gi_of _, gi_rg _⟩
  obtain ⟨v1, e1, r1⟩ : ∃ z : Int, xs 1 = Int32.ofInt z ∧ -2147483648 ≤ z ∧ z ≤ 2147483647 := ⟨_, gi_of _, gi_rg _⟩
  obtain ⟨v2, e2, r2⟩ : ∃ z : Int, xs 2 = Int32.ofInt z ∧ -2147483648 ≤ z ∧ z ≤ 2147483647 := ⟨_, gi_of _, gi_rg _⟩
  obtain ⟨v3, e3, r3⟩ : ∃ z : Int, xs 3 = Int32.ofInt z ∧ -2147483648 ≤ z ∧ z ≤ 2147483647 := ⟨_, gi_of _, gi_rg _⟩
  obtain ⟨v4, e4, r4⟩ : ∃ z : Int, xs 4 = Int32.ofInt z ∧ -2147483648 ≤ z ∧ z ≤ 2147483647 := ⟨_, gi_of _, gi_rg _⟩
  obtain ⟨v5, e5, r5⟩ : ∃ z : Int, xs 5 = Int32.ofInt z ∧ -2147483648 ≤ z ∧ z ≤ 2147483647 := ⟨_, gi_of _, gi_rg _⟩
  obtain ⟨v6, e6, r6⟩ : ∃ z : Int, xs 6 = Int32.ofInt z ∧ -2147483648 ≤ z ∧ z ≤ 2147483647 := ⟨_, gi_of _, gi_rg _⟩
  refine g_aload_n (n := 233) X 2 dL_law_232 rfl rfl rfl ?_
  refine g_aload_n (n := 234) X 3 dL_law_233 rfl rfl rfl ?_
  refine g_iload_n (n := 235) X 0 dL_law_234 rfl rfl rfl ?_
  refine g_iconst (n := 236) X dL_law_235 rfl ?_
  refine g_iadd (n := 237) (z := 1) X dL_law_236 rfl rfl ?_
  refine g_scrld (n := 238) (z := v1) X hb (by omega) (by omega) (by omega) dL_law_237 rfl e1 ?_
  refine g_aload_n (n := 239) X 3 dL_law_238 rfl rfl rfl ?_
  refine g_iload_n (n := 240) X 0 dL_law_239 rfl rfl rfl ?_
  refine g_iconst (n := 241) X dL_law_240 rfl ?_
  refine g_iadd (n := 242) (z := 2) X dL_law_241 rfl rfl ?_
  refine g_scrld (n := 243) (z := v2) X hb (by omega) (by omega) (by omega) dL_law_242 rfl e2 ?_
  refine g_callVi (n := 246) (As := [gJ v1, gJ v2]) (rest := []) (cs1 := 206) (ss1 := 87467) X (c_X11_parish v1 v2 (by omega) (by omega) (by omega) f_0_0 f_1_0 f_2_0 rents) okX11_parish kw_3_22 ⟨kw_3_23, kw_3_24⟩ ⟨rfl, rfl⟩ ⟨Nat.le_of_ble_eq_true rfl, Nat.le_of_ble_eq_true rfl⟩ rfl (by omega) (by omega) lay_0 rfl rfl (Nat.le_of_ble_eq_true rfl) ⟨Nat.le_of_ble_eq_true rfl, Nat.le_of_ble_eq_true rfl⟩ rfl rfl dL_law_243 rfl (fun z1 M2 P3 => ?_)
  obtain ⟨P3, F4⟩ := P3
  refine g_aload_n (n := 247) X 1 dL_law_246 rfl rfl rfl ?_
  refine g_aload_n (n := 248) X 3 dL_law_247 rfl rfl rfl ?_
  refine g_iload_n (n := 249) X 0 dL_law_248 rfl rfl rfl ?_
  refine g_iconst (n := 250) X dL_law_249 rfl ?_
  refine g_iadd (n := 251) (z := 1) X dL_law_250 rfl rfl ?_
  refine g_scrld (n := 252) (z := v1) X hb (by omega) (by omega) (by omega) dL_law_251 rfl e1 ?_
  refine g_aload_n (n := 253) X 3 dL_law_252 rfl rfl rfl ?_
  refine g_iload_n (n := 254) X 0 dL_law_253 rfl rfl rfl ?_
  refine g_iconst (n := 255) X dL_law_254 rfl ?_
  refine g_iadd (n := 256) (z := 2) X dL_law_255 rfl rfl ?_
  refine g_scrld (n := 257) (z := v2) X hb (by omega) (by omega) (by omega) dL_law_256 rfl e2 ?_
  refine g_callVi (n := 260) (As := [gJ v1, gJ v2]) (rest := [gJ z1]) (cs1 := 206) (ss1 := 87467) X (c_X12_parish v1 v2 (by omega) (by omega) (by omega) ((congrFun (F4 190 (by omega)) _).trans f_190_1) (fun i h0 h1 => (congrFun ((F4 191 (by omega)).trans rfl) i).trans (hS i h0 h1))) okX12_parish kw_6_99 ⟨kw_6_100, kw_6_101⟩ ⟨rfl, rfl⟩ ⟨Nat.le_of_ble_eq_true rfl, Nat.le_of_ble_eq_true rfl⟩ rfl (by omega) (by omega) lay_190 rfl rfl (Nat.le_of_ble_eq_true rfl) ⟨Nat.le_of_ble_eq_true rfl, Nat.le_of_ble_eq_true rfl⟩ rfl rfl dL_law_257 rfl (fun z5 M6 P7 => ?_)
  obtain ⟨P7, F8⟩ := P7
  refine g_icmp_eq (n := 263) (tgt := 1992) X dL_law_260 (by decide) (by omega) (by omega) rfl (fun c9 => ?_) (fun c9 => by exfalso; omega)
  exact law_tail X hr hb (by omega) (by omega)
theorem dL_law_265 : decode code 265 = .ok (.aload_n 1, 1) := by decide +kernel
theorem dL_law_266 : decode code 266 = .ok (.aload_n 0, 1) := by decide +kernel
theorem dL_law_267 : decode code 267 = .ok (.iload_n 3, 1) := by decide +kernel
theorem dL_law_268 : decode code 268 = .ok (.iconst 1, 1) := by decide +kernel
theorem dL_law_269 : decode code 269 = .ok (.iadd, 1) := by decide +kernel
theorem dL_law_270 : decode code 270 = .ok (.iaload, 1) := by decide +kernel
theorem dL_law_271 : decode code 271 = .ok (.aload_n 0, 1) := by decide +kernel
theorem dL_law_272 : decode code 272 = .ok (.iload_n 3, 1) := by decide +kernel
theorem dL_law_273 : decode code 273 = .ok (.iconst 2, 1) := by decide +kernel
theorem dL_law_274 : decode code 274 = .ok (.iadd, 1) := by decide +kernel
theorem dL_law_275 : decode code 275 = .ok (.iaload, 1) := by decide +kernel
theorem dL_law_276 : decode code 276 = .ok (.aload_n 0, 1) := by decide +kernel
theorem dL_law_277 : decode code 277 = .ok (.iload_n 3, 1) := by decide +kernel
theorem dL_law_278 : decode code 278 = .ok (.iconst 3, 1) := by decide +kernel
theorem dL_law_279 : decode code 279 = .ok (.iadd, 1) := by decide +kernel
theorem dL_law_280 : decode code 280 = .ok (.iaload, 1) := by decide +kernel
theorem dL_law_281 : decode code 281 = .ok (.invokevirtual 18, 3) := by decide +kernel
theorem kw_3_32 : (Jvm.Cond.methodLink "ParishUnionLaw" (18 : Nat) ({ cls := "ParishUnion", name := "road", desc := "(III)I" } : Jvm.MethodName)) ∈ gT := gT_of (tb_3 _ (List.mem_of_getElem? (i := 32) rfl)) rfl
theorem kw_3_35 : (Jvm.Cond.code ({ cls := "ParishUnion", name := "road", desc := "(III)I" } : Jvm.MethodName) prog_1_method_3_code (4 : Nat) (Option.some Jvm.ClassFile.FieldType.int)) ∈ gT := gT_of (tb_3 _ (List.mem_of_getElem? (i := 35) rfl)) rfl
theorem okX11_road : gQok yX11_road cX11_road 4 (Option.some Jvm.ClassFile.FieldType.int) 3 := ⟨kw_3_35, kw_1_1, by decide +kernel, by decide +kernel, by decide +kernel⟩
theorem kw_3_33 : (Jvm.Cond.instanceMethod ({ cls := "ParishUnion", name := "road", desc := "(III)I" } : Jvm.MethodName)) ∈ gT := gT_of (tb_3 _ (List.mem_of_getElem? (i := 33) rfl)) rfl
theorem kw_3_34 : (Jvm.Cond.selects "ParishUnion" ({ cls := "ParishUnion", name := "road", desc := "(III)I" } : Jvm.MethodName) ({ cls := "ParishUnion", name := "road", desc := "(III)I" } : Jvm.MethodName)) ∈ gT := gT_of (tb_3 _ (List.mem_of_getElem? (i := 34) rfl)) rfl
theorem dL_law_284 : decode code 284 = .ok (.aload_n 2, 1) := by decide +kernel
theorem dL_law_285 : decode code 285 = .ok (.aload_n 0, 1) := by decide +kernel
theorem dL_law_286 : decode code 286 = .ok (.iload_n 3, 1) := by decide +kernel
theorem dL_law_287 : decode code 287 = .ok (.iconst 1, 1) := by decide +kernel
theorem dL_law_288 : decode code 288 = .ok (.iadd, 1) := by decide +kernel
theorem dL_law_289 : decode code 289 = .ok (.iaload, 1) := by decide +kernel
theorem dL_law_290 : decode code 290 = .ok (.aload_n 0, 1) := by decide +kernel
theorem dL_law_291 : decode code 291 = .ok (.iload_n 3, 1) := by decide +kernel
theorem dL_law_292 : decode code 292 = .ok (.iconst 2, 1) := by decide +kernel
theorem dL_law_293 : decode code 293 = .ok (.iadd, 1) := by decide +kernel
theorem dL_law_294 : decode code 294 = .ok (.iaload, 1) := by decide +kernel
theorem dL_law_295 : decode code 295 = .ok (.aload_n 0, 1) := by decide +kernel
theorem dL_law_296 : decode code 296 = .ok (.iload_n 3, 1) := by decide +kernel
theorem dL_law_297 : decode code 297 = .ok (.iconst 3, 1) := by decide +kernel
theorem dL_law_298 : decode code 298 = .ok (.iadd, 1) := by decide +kernel
theorem dL_law_299 : decode code 299 = .ok (.iaload, 1) := by decide +kernel
theorem dL_law_300 : decode code 300 = .ok (.invokevirtual 22, 3) := by decide +kernel
theorem kw_6_109 : (Jvm.Cond.methodLink "ParishUnionLaw" (22 : Nat) ({ cls := "ParishUnionModel", name := "road", desc := "(III)I" } : Jvm.MethodName)) ∈ gT := gT_of (tb_6 _ (List.mem_of_getElem? (i := 109) rfl)) rfl
theorem kw_6_112 : (Jvm.Cond.code ({ cls := "ParishUnionModel", name := "road", desc := "(III)I" } : Jvm.MethodName) prog_14_method_11_code (10 : Nat) (Option.some Jvm.ClassFile.FieldType.int)) ∈ gT := gT_of (tb_6 _ (List.mem_of_getElem? (i := 112) rfl)) rfl
theorem okX12_road : gQok yX12_road cX12_road 10 (Option.some Jvm.ClassFile.FieldType.int) 3 := ⟨kw_6_112, kw_1_13, by decide +kernel, by decide +kernel, by decide +kernel⟩
theorem kw_6_110 : (Jvm.Cond.instanceMethod ({ cls := "ParishUnionModel", name := "road", desc := "(III)I" } : Jvm.MethodName)) ∈ gT := gT_of (tb_6 _ (List.mem_of_getElem? (i := 110) rfl)) rfl
theorem kw_6_111 : (Jvm.Cond.selects "ParishUnionModel" ({ cls := "ParishUnionModel", name := "road", desc := "(III)I" } : Jvm.MethodName) ({ cls := "ParishUnionModel", name := "road", desc := "(III)I" } : Jvm.MethodName)) ∈ gT := gT_of (tb_6 _ (List.mem_of_getElem? (i := 111) rfl)) rfl
theorem dL_law_303 : decode code 303 = .ok (.if_icmp .eq 1689, 3) := by decide +kernel
set_option maxRecDepth 100000 in
set_option maxHeartbeats 4000000 in
theorem law_case_1 {p : Program} {e : Env} {s : State} {m : MethodId} {below : List Frame} {meth : Method} {c : Code} {l : Launch} {D : va_G} {cA : Nat → ClassId} {b : Nat} {xs : Nat → Int32} (X : gCx p s m #[Value.ref b] meth c s.heap.size D cA "ParishUnionLaw" code 4) (hr : meth.sig.returnType = ret) (hb : b < s.heap.size ∧ va_X b 7 xs s s.heap) {M : gM} (hFr : gFr M) : G p l e room_1 s m #[Value.ref b] below meth c s.heap.size D cA 4 (lw_Z below #[Value.ref b] s) 206 87467 M 206 265 [(3, gJ 0), (2, gA s.heap.size 190), (1, gA s.heap.size 0), (0, .ref b)] [] := by
  obtain ⟨f_0_0, f_0_1, f_0_2, f_0_3, f_0_4, f_0_5, f_0_6, f_0_7, f_0_8, f_0_9, f_1_0, f_1_1, f_1_2, f_1_3, f_1_4, f_1_5, f_1_6, f_1_7, f_1_8, f_1_9, f_1_10, f_1_11, f_1_12, f_1_13, f_1_14, f_1_15, f_2_0, f_2_1, f_5_0, f_7_0, f_9_0, f_9_1, f_9_2, f_9_3, f_9_4, f_9_5, f_15_0, f_15_1, f_15_2, f_15_3, f_15_4, f_15_5, f_15_6, f_15_7, f_15_8, f_15_9, f_23_0, f_23_1, f_26_0, f_26_1, f_26_2, f_26_3, f_87_0, f_87_1, f_87_2, f_87_3, f_87_4, f_153_0, f_153_1, f_153_2, f_153_3, f_153_4, f_159_0, f_190_0, f_190_1, f_190_2, f_190_3, f_190_4, f_190_5, f_190_6, f_190_7, f_190_8, f_190_9, f_190_10, f_190_11, f_190_12, f_190_13, f_190_14, f_190_15, f_190_16, f_190_17, f_190_18, f_190_19, f_190_20, f_190_21, f_190_22, f_190_23, rents, way, beds, frost0, rows0, rooms0, tape0, car0, hS⟩ := hFr
  obtain ⟨v0, e0, r0⟩ : ∃ z : Int, xs 0 = Int32.ofInt z ∧ -2147483648 ≤ z ∧ z ≤ 2147483647 := ⟨_, gi_of _, gi_rg _⟩
  obtain ⟨v1, e1, r1⟩ : ∃ z : Int, xs 1 = Int32.ofInt z ∧ -2147483648 ≤ z ∧ z ≤ 2147483647 := ⟨_, gi_of _, gi_rg _⟩
  obtain ⟨v2, e2, r2⟩ : ∃ z : Int, xs 2 = Int32.ofInt z ∧ -2147483648 ≤ z ∧ z ≤ 2147483647 := ⟨_, gi_of _, gi_rg _⟩
  obtain ⟨v3, e3, r3⟩ : ∃ z : Int, xs 3 = Int32.ofInt z ∧ -2147483648 ≤ z ∧ z ≤ 2147483647 := ⟨_, gi_of _, gi_rg _⟩
  obtain ⟨v4, e4, r4⟩ : ∃ z : Int, xs 4 = Int32.ofInt z ∧ -2147483648 ≤ z ∧ z ≤ 2147483647 := ⟨_, gi_of _, gi_rg _⟩
  obtain ⟨v5, e5, r5⟩ : ∃ z : Int, xs 5 = Int32.ofInt z ∧ -2147483648 ≤ z ∧ z ≤ 2147483647 := ⟨_, gi_of _, gi_rg _⟩
  obtain ⟨v6, e6, r6⟩ : ∃ z : Int, xs 6 = Int32.ofInt z ∧ -2147483648 ≤ z ∧ z ≤ 2147483647 := ⟨_, gi_of _, gi_rg _⟩
  refine g_aload_n (n := 266) X 2 dL_law_265 rfl rfl rfl ?_
  refine g_aload_n (n := 267) X 3 dL_law_266 rfl rfl rfl ?_
  refine g_iload_n (n := 268) X 0 dL_law_267 rfl rfl rfl ?_
  refine g_iconst (n := 269) X dL_law_268 rfl ?_
  refine g_iadd (n := 270) (z := 1) X dL_law_269 rfl rfl ?_
  refine g_scrld (n := 271) (z := v1) X hb (by omega) (by omega) (by omega) dL_law_270 rfl e1 ?_
  refine g_aload_n (n := 272) X 3 dL_law_271 rfl rfl rfl ?_
  refine g_iload_n (n := 273) X 0 dL_law_272 rfl rfl rfl ?_
  refine g_iconst (n := 274) X dL_law_273 rfl ?_
  refine g_iadd (n := 275) (z := 2) X dL_law_274 rfl rfl ?_
  refine g_scrld (n := 276) (z := v2) X hb (by omega) (by omega) (by omega) dL_law_275 rfl e2 ?_
  refine g_aload_n (n := 277) X 3 dL_law_276 rfl rfl rfl ?_
  refine g_iload_n (n := 278) X 0 dL_law_277 rfl rfl rfl ?_
  refine g_iconst (n := 279) X dL_law_278 rfl ?_
  refine g_iadd (n := 280) (z := 3) X dL_law_279 rfl rfl ?_
  refine g_scrld (n := 281) (z := v3) X hb (by omega) (by omega) (by omega) dL_law_280 rfl e3 ?_
  refine g_callVi (n := 284) (As := [gJ v1, gJ v2, gJ v3]) (rest := []) (cs1 := 206) (ss1 := 87467) X (c_X11_road v1 v2 v3 (by omega) (by omega) (by omega) (by omega) f_0_0 f_1_0 f_2_1 way) okX11_road kw_3_32 ⟨kw_3_33, kw_3_34⟩ ⟨rfl, rfl⟩ ⟨Nat.le_of_ble_eq_true rfl, Nat.le_of_ble_eq_true rfl⟩ rfl (by omega) (by omega) lay_0 rfl rfl (Nat.le_of_ble_eq_true rfl) ⟨Nat.le_of_ble_eq_true rfl, Nat.le_of_ble_eq_true rfl⟩ rfl rfl dL_law_281 rfl (fun z1 M2 P3 => ?_)
  obtain ⟨P3, F4⟩ := P3
  refine g_aload_n (n := 285) X 1 dL_law_284 rfl rfl rfl ?_
  refine g_aload_n (n := 286) X 3 dL_law_285 rfl rfl rfl ?_
  refine g_iload_n (n := 287) X 0 dL_law_286 rfl rfl rfl ?_
  refine g_iconst (n := 288) X dL_law_287 rfl ?_
  refine g_iadd (n := 289) (z := 1) X dL_law_288 rfl rfl ?_
  refine g_scrld (n := 290) (z := v1) X hb (by omega) (by omega) (by omega) dL_law_289 rfl e1 ?_
  refine g_aload_n (n := 291) X 3 dL_law_290 rfl rfl rfl ?_
  refine g_iload_n (n := 292) X 0 dL_law_291 rfl rfl rfl ?_
  refine g_iconst (n := 293) X dL_law_292 rfl ?_
  refine g_iadd (n := 294) (z := 2) X dL_law_293 rfl rfl ?_
  refine g_scrld (n := 295) (z := v2) X hb (by omega) (by omega) (by omega) dL_law_294 rfl e2 ?_
  refine g_aload_n (n := 296) X 3 dL_law_295 rfl rfl rfl ?_
  refine g_iload_n (n := 297) X 0 dL_law_296 rfl rfl rfl ?_
  refine g_iconst (n := 298) X dL_law_297 rfl ?_
  refine g_iadd (n := 299) (z := 3) X dL_law_298 rfl rfl ?_
  refine g_scrld (n := 300) (z := v3) X hb (by omega) (by omega) (by omega) dL_law_299 rfl e3 ?_
  refine g_callVi (n := 303) (As := [gJ v1, gJ v2, gJ v3]) (rest := [gJ z1]) (cs1 := 206) (ss1 := 87467) X (c_X12_road v1 v2 v3 (by omega) (by omega) (by omega) (by omega) ((congrFun (F4 190 (by omega)) _).trans f_190_1) ((congrFun (F4 190 (by omega)) _).trans f_190_5) (fun i h0 h1 => (congrFun ((F4 191 (by omega)).trans rfl) i).trans (hS i h0 h1))) okX12_road kw_6_109 ⟨kw_6_110, kw_6_111⟩ ⟨rfl, rfl⟩ ⟨Nat.le_of_ble_eq_true rfl, Nat.le_of_ble_eq_true rfl⟩ rfl (by omega) (by omega) lay_190 rfl rfl (Nat.le_of_ble_eq_true rfl) ⟨Nat.le_of_ble_eq_true rfl, Nat.le_of_ble_eq_true rfl⟩ rfl rfl dL_law_300 rfl (fun z5 M6 P7 => ?_)
  obtain ⟨P7, F8⟩ := P7
  refine g_icmp_eq (n := 306) (tgt := 1992) X dL_law_303 (by decide) (by omega) (by omega) rfl (fun c9 => ?_) (fun c9 => by exfalso; omega)
  exact law_tail X hr hb (by omega) (by omega)
theorem dL_law_308 : decode code 308 = .ok (.aload_n 1, 1) := by decide +kernel
theorem dL_law_309 : decode code 309 = .ok (.aload_n 0, 1) := by decide +kernel
theorem dL_law_310 : decode code 310 = .ok (.iload_n 3, 1) := by decide +kernel
theorem dL_law_311 : decode code 311 = .ok (.iconst 1, 1) := by decide +kernel
theorem dL_law_312 : decode code 312 = .ok (.iadd, 1) := by decide +kernel
theorem dL_law_313 : decode code 313 = .ok (.iaload, 1) := by decide +kernel
theorem dL_law_314 : decode code 314 = .ok (.aload_n 0, 1) := by decide +kernel
theorem dL_law_315 : decode code 315 = .ok (.iload_n 3, 1) := by decide +kernel
theorem dL_law_316 : decode code 316 = .ok (.iconst 2, 1) := by decide +kernel
theorem dL_law_317 : decode code 317 = .ok (.iadd, 1) := by decide +kernel
theorem dL_law_318 : decode code 318 = .ok (.iaload, 1) := by decide +kernel
theorem dL_law_319 : decode code 319 = .ok (.invokevirtual 23, 3) := by decide +kernel
theorem kw_3_47 : (Jvm.Cond.methodLink "ParishUnionLaw" (23 : Nat) ({ cls := "ParishUnion", name := "far", desc := "(II)I" } : Jvm.MethodName)) ∈ gT := gT_of (tb_3 _ (List.mem_of_getElem? (i := 47) rfl)) rfl
theorem kw_3_50 : (Jvm.Cond.code ({ cls := "ParishUnion", name := "far", desc := "(II)I" } : Jvm.MethodName) prog_1_method_4_code (3 : Nat) (Option.some Jvm.ClassFile.FieldType.int)) ∈ gT := gT_of (tb_3 _ (List.mem_of_getElem? (i := 50) rfl)) rfl
theorem okX11_far : gQok yX11_far cX11_far 3 (Option.some Jvm.ClassFile.FieldType.int) 2 := ⟨kw_3_50, kw_1_1, by decide +kernel, by decide +kernel, by decide +kernel⟩
theorem kw_3_48 : (Jvm.Cond.instanceMethod ({ cls := "ParishUnion", name := "far", desc := "(II)I" } : Jvm.MethodName)) ∈ gT := gT_of (tb_3 _ (List.mem_of_getElem? (i := 48) rfl)) rfl
theorem kw_3_49 : (Jvm.Cond.selects "ParishUnion" ({ cls := "ParishUnion", name := "far", desc := "(II)I" } : Jvm.MethodName) ({ cls := "ParishUnion", name := "far", desc := "(II)I" } : Jvm.MethodName)) ∈ gT := gT_of (tb_3 _ (List.mem_of_getElem? (i := 49) rfl)) rfl
theorem dL_law_322 : decode code 322 = .ok (.aload_n 2, 1) := by decide +kernel
theorem dL_law_323 : decode code 323 = .ok (.aload_n 0, 1) := by decide +kernel
theorem dL_law_324 : decode code 324 = .ok (.iload_n 3, 1) := by decide +kernel
theorem dL_law_325 : decode code 325 = .ok (.iconst 1, 1) := by decide +kernel
theorem dL_law_326 : decode code 326 = .ok (.iadd, 1) := by decide +kernel
theorem dL_law_327 : decode code 327 = .ok (.iaload, 1) := by decide +kernel
theorem dL_law_328 : decode code 328 = .ok (.aload_n 0, 1) := by decide +kernel
theorem dL_law_329 : decode code 329 = .ok (.iload_n 3, 1) := by decide +kernel
theorem dL_law_330 : decode code 330 = .ok (.iconst 2, 1) := by decide +kernel
theorem dL_law_331 : decode code 331 = .ok (.iadd, 1) := by decide +kernel
theorem dL_law_332 : decode code 332 = .ok (.iaload, 1) := by decide +kernel
theorem dL_law_333 : decode code 333 = .ok (.invokevirtual 26, 3) := by decide +kernel
theorem kw_6_117 : (Jvm.Cond.methodLink "ParishUnionLaw" (26 : Nat) ({ cls := "ParishUnionModel", name := "far", desc := "(II)I" } : Jvm.MethodName)) ∈ gT := gT_of (tb_6 _ (List.mem_of_getElem? (i := 117) rfl)) rfl
theorem kw_6_120 : (Jvm.Cond.code ({ cls := "ParishUnionModel", name := "far", desc := "(II)I" } : Jvm.MethodName) prog_14_method_12_code (3 : Nat) (Option.some Jvm.ClassFile.FieldType.int)) ∈ gT := gT_of (tb_6 _ (List.mem_of_getElem? (i := 120) rfl)) rfl
theorem okX12_far : gQok yX12_far cX12_far 3 (Option.some Jvm.ClassFile.FieldType.int) 2 := ⟨kw_6_120, kw_1_13, by decide +kernel, by decide +kernel, by decide +kernel⟩
theorem kw_6_118 : (Jvm.Cond.instanceMethod ({ cls := "ParishUnionModel", name := "far", desc := "(II)I" } : Jvm.MethodName)) ∈ gT := gT_of (tb_6 _ (List.mem_of_getElem? (i := 118) rfl)) rfl
theorem kw_6_119 : (Jvm.Cond.selects "ParishUnionModel" ({ cls := "ParishUnionModel", name := "far", desc := "(II)I" } : Jvm.MethodName) ({ cls := "ParishUnionModel", name := "far", desc := "(II)I" } : Jvm.MethodName)) ∈ gT := gT_of (tb_6 _ (List.mem_of_getElem? (i := 119) rfl)) rfl
theorem dL_law_336 : decode code 336 = .ok (.if_icmp .eq 1656, 3) := by decide +kernel
set_option maxRecDepth 100000 in
set_option maxHeartbeats 4000000 in
theorem law_case_2 {p : Program} {e : Env} {s : State} {m : MethodId} {below : List Frame} {meth : Method} {c : Code} {l : Launch} {D : va_G} {cA : Nat → ClassId} {b : Nat} {xs : Nat → Int32} (X : gCx p s m #[Value.ref b] meth c s.heap.size D cA "ParishUnionLaw" code 4) (hr : meth.sig.returnType = ret) (hb : b < s.heap.size ∧ va_X b 7 xs s s.heap) {M : gM} (hFr : gFr M) : G p l e room_1 s m #[Value.ref b] below meth c s.heap.size D cA 4 (lw_Z below #[Value.ref b] s) 206 87467 M 206 308 [(3, gJ 0), (2, gA s.heap.size 190), (1, gA s.heap.size 0), (0, .ref b)] [] := by
  obtain ⟨f_0_0, f_0_1, f_0_2, f_0_3, f_0_4, f_0_5, f_0_6, f_0_7, f_0_8, f_0_9, f_1_0, f_1_1, f_1_2, f_1_3, f_1_4, f_1_5, f_1_6, f_1_7, f_1_8, f_1_9, f_1_10, f_1_11, f_1_12, f_1_13, f_1_14, f_1_15, f_2_0, f_2_1, f_5_0, f_7_0, f_9_0, f_9_1, f_9_2, f_9_3, f_9_4, f_9_5, f_15_0, f_15_1, f_15_2, f_15_3, f_15_4, f_15_5, f_15_6, f_15_7, f_15_8, f_15_9, f_23_0, f_23_1, f_26_0, f_26_1, f_26_2, f_26_3, f_87_0, f_87_1, f_87_2, f_87_3, f_87_4, f_153_0, f_153_1, f_153_2, f_153_3, f_153_4, f_159_0, f_190_0, f_190_1, f_190_2, f_190_3, f_190_4, f_190_5, f_190_6, f_190_7, f_190_8, f_190_9, f_190_10, f_190_11, f_190_12, f_190_13, f_190_14, f_190_15, f_190_16, f_190_17, f_190_18, f_190_19, f_190_20, f_190_21, f_190_22, f_190_23, rents, way, beds, frost0, rows0, rooms0, tape0, car0, hS⟩ := hFr
  obtain ⟨v0, e0, r0⟩ : ∃ z : Int, xs 0 = Int32.ofInt z ∧ -2147483648 ≤ z ∧ z ≤ 2147483647 := ⟨_, gi_of _, gi_rg _⟩
  obtain ⟨v1, e1, r1⟩ : ∃ z : Int, xs 1 = Int32.ofInt z ∧ -2147483648 ≤ z ∧ z ≤ 2147483647 := ⟨_, gi_of _, gi_rg _⟩
  obtain ⟨v2, e2, r2⟩ : ∃ z : Int, xs 2 = Int32.ofInt z ∧ -2147483648 ≤ z ∧ z ≤ 2147483647 := ⟨_, gi_of _, gi_rg _⟩
  obtain ⟨v3, e3, r3⟩ : ∃ z : Int, xs 3 = Int32.ofInt z ∧ -2147483648 ≤ z ∧ z ≤ 2147483647 := ⟨_, gi_of _, gi_rg _⟩
  obtain ⟨v4, e4, r4⟩ : ∃ z : Int, xs 4 = Int32.ofInt z ∧ -2147483648 ≤ z ∧ z ≤ 2147483647 := ⟨_, gi_of _, gi_rg _⟩
  obtain ⟨v5, e5, r5⟩ : ∃ z : Int, xs 5 = Int32.ofInt z ∧ -2147483648 ≤ z ∧ z ≤ 2147483647 := ⟨_, gi_of _, gi_rg _⟩
  obtain ⟨v6, e6, r6⟩ : ∃ z : Int, xs 6 = Int32.ofInt z ∧ -2147483648 ≤ z ∧ z ≤ 2147483647 := ⟨_, gi_of _, gi_rg _⟩
  refine g_aload_n (n := 309) X 2 dL_law_308 rfl rfl rfl ?_
  refine g_aload_n (n := 310) X 3 dL_law_309 rfl rfl rfl ?_
  refine g_iload_n (n := 311) X 0 dL_law_310 rfl rfl rfl ?_
  refine g_iconst (n := 312) X dL_law_311 rfl ?_
  refine g_iadd (n := 313) (z := 1) X dL_law_312 rfl rfl ?_
  refine g_scrld (n := 314) (z := v1) X hb (by omega) (by omega) (by omega) dL_law_313 rfl e1 ?_
  refine g_aload_n (n := 315) X 3 dL_law_314 rfl rfl rfl ?_
  refine g_iload_n (n := 316) X 0 dL_law_315 rfl rfl rfl ?_
  refine g_iconst (n := 317) X dL_law_316 rfl ?_
  refine g_iadd (n := 318) (z := 2) X dL_law_317 rfl rfl ?_
  refine g_scrld (n := 319) (z := v2) X hb (by omega) (by omega) (by omega) dL_law_318 rfl e2 ?_
  refine g_callVi (n := 322) (As := [gJ v1, gJ v2]) (rest := []) (cs1 := 206) (ss1 := 87467) X (c_X11_far v1 v2 (by omega) (by omega) (by omega) f_0_0 f_1_0 f_2_1 way) okX11_far kw_3_47 ⟨kw_3_48, kw_3_49⟩ ⟨rfl, rfl⟩ ⟨Nat.le_of_ble_eq_true rfl, Nat.le_of_ble_eq_true rfl⟩ rfl (by omega) (by omega) lay_0 rfl rfl (Nat.le_of_ble_eq_true rfl) ⟨Nat.le_of_ble_eq_true rfl, Nat.le_of_ble_eq_true rfl⟩ rfl rfl dL_law_319 rfl (fun z1 M2 P3 => ?_)
  obtain ⟨P3, F4⟩ := P3
  refine g_aload_n (n := 323) X 1 dL_law_322 rfl rfl rfl ?_
  refine g_aload_n (n := 324) X 3 dL_law_323 rfl rfl rfl ?_
  refine g_iload_n (n := 325) X 0 dL_law_324 rfl rfl rfl ?_
  refine g_iconst (n := 326) X dL_law_325 rfl ?_
  refine g_iadd (n := 327) (z := 1) X dL_law_326 rfl rfl ?_
  refine g_scrld (n := 328) (z := v1) X hb (by omega) (by omega) (by omega) dL_law_327 rfl e1 ?_
  refine g_aload_n (n := 329) X 3 dL_law_328 rfl rfl rfl ?_
  refine g_iload_n (n := 330) X 0 dL_law_329 rfl rfl rfl ?_
  refine g_iconst (n := 331) X dL_law_330 rfl ?_
  refine g_iadd (n := 332) (z := 2) X dL_law_331 rfl rfl ?_
  refine g_scrld (n := 333) (z := v2) X hb (by omega) (by omega) (by omega) dL_law_332 rfl e2 ?_
  refine g_callVi (n := 336) (As := [gJ v1, gJ v2]) (rest := [gJ z1]) (cs1 := 206) (ss1 := 87467) X (c_X12_far v1 v2 (by omega) (by omega) (by omega) ((congrFun (F4 190) _).trans f_190_1) (fun i h0 h1 => (congrFun ((F4 191).trans rfl) i).trans (hS i h0 h1))) okX12_far kw_6_117 ⟨kw_6_118, kw_6_119⟩ ⟨rfl, rfl⟩ ⟨Nat.le_of_ble_eq_true rfl, Nat.le_of_ble_eq_true rfl⟩ rfl (by omega) (by omega) lay_190 rfl rfl (Nat.le_of_ble_eq_true rfl) ⟨Nat.le_of_ble_eq_true rfl, Nat.le_of_ble_eq_true rfl⟩ rfl rfl dL_law_333 rfl (fun z5 M6 P7 => ?_)
  obtain ⟨P7, F8⟩ := P7
  refine g_icmp_eq (n := 339) (tgt := 1992) X dL_law_336 (by decide) (by omega) (by omega) rfl (fun c9 => ?_) (fun c9 => by exfalso; omega)
  exact law_tail X hr hb (by omega) (by omega)
theorem dL_law_341 : decode code 341 = .ok (.aload_n 1, 1) := by decide +kernel
theorem dL_law_342 : decode code 342 = .ok (.aload_n 0, 1) := by decide +kernel
theorem dL_law_343 : decode code 343 = .ok (.iload_n 3, 1) := by decide +kernel
theorem dL_law_344 : decode code 344 = .ok (.iconst 1, 1) := by decide +kernel
theorem dL_law_345 : decode code 345 = .ok (.iadd, 1) := by decide +kernel
theorem dL_law_346 : decode code 346 = .ok (.iaload, 1) := by decide +kernel
theorem dL_law_347 : decode code 347 = .ok (.aload_n 0, 1) := by decide +kernel
theorem dL_law_348 : decode code 348 = .ok (.iload_n 3, 1) := by decide +kernel
theorem dL_law_349 : decode code 349 = .ok (.iconst 2, 1) := by decide +kernel
theorem dL_law_350 : decode code 350 = .ok (.iadd, 1) := by decide +kernel
theorem dL_law_351 : decode code 351 = .ok (.iaload, 1) := by decide +kernel
theorem dL_law_352 : decode code 352 = .ok (.aload_n 0, 1) := by decide +kernel
theorem dL_law_353 : decode code 353 = .ok (.iload_n 3, 1) := by decide +kernel
theorem dL_law_354 : decode code 354 = .ok (.iconst 3, 1) := by decide +kernel
theorem dL_law_355 : decode code 355 = .ok (.iadd, 1) := by decide +kernel
theorem dL_law_356 : decode code 356 = .ok (.iaload, 1) := by decide +kernel
theorem dL_law_357 : decode code 357 = .ok (.aload_n 0, 1) := by decide +kernel
theorem dL_law_358 : decode code 358 = .ok (.iload_n 3, 1) := by decide +kernel
theorem dL_law_359 : decode code 359 = .ok (.iconst 4, 1) := by decide +kernel
theorem dL_law_360 : decode code 360 = .ok (.iadd, 1) := by decide +kernel
theorem dL_law_361 : decode code 361 = .ok (.iaload, 1) := by decide +kernel
theorem dL_law_362 : decode code 362 = .ok (.aload_n 0, 1) := by decide +kernel
theorem dL_law_363 : decode code 363 = .ok (.iload_n 3, 1) := by decide +kernel
theorem dL_law_364 : decode code 364 = .ok (.iconst 5, 1) := by decide +kernel
theorem dL_law_365 : decode code 365 = .ok (.iadd, 1) := by decide +kernel
theorem dL_law_366 : decode code 366 = .ok (.iaload, 1) := by decide +kernel
theorem dL_law_367 : decode code 367 = .ok (.invokevirtual 27, 3) := by decide +kernel
theorem kw_3_52 : (Jvm.Cond.methodLink "ParishUnionLaw" (27 : Nat) ({ cls := "ParishUnion", name := "person", desc := "(IIIII)I" } : Jvm.MethodName)) ∈ gT := gT_of (tb_3 _ (List.mem_of_getElem? (i := 52) rfl)) rfl
theorem kw_3_55 : (Jvm.Cond.code ({ cls := "ParishUnion", name := "person", desc := "(IIIII)I" } : Jvm.MethodName) prog_1_method_5_code (7 : Nat) (Option.some Jvm.ClassFile.FieldType.int)) ∈ gT := gT_of (tb_3 _ (List.mem_of_getElem? (i := 55) rfl)) rfl
theorem okX11_person : gQok yX11_person cX11_person 7 (Option.some Jvm.ClassFile.FieldType.int) 5 := ⟨kw_3_55, kw_1_1, by decide +kernel, by decide +kernel, by decide +kernel⟩
theorem kw_3_53 : (Jvm.Cond.instanceMethod ({ cls := "ParishUnion", name := "person", desc := "(IIIII)I" } : Jvm.MethodName)) ∈ gT := gT_of (tb_3 _ (List.mem_of_getElem? (i := 53) rfl)) rfl
theorem kw_3_54 : (Jvm.Cond.selects "ParishUnion" ({ cls := "ParishUnion", name := "person", desc := "(IIIII)I" } : Jvm.MethodName) ({ cls := "ParishUnion", name := "person", desc := "(IIIII)I" } : Jvm.MethodName)) ∈ gT := gT_of (tb_3 _ (List.mem_of_getElem? (i := 54) rfl)) rfl
theorem dL_law_370 : decode code 370 = .ok (.aload_n 2, 1) := by decide +kernel
theorem dL_law_371 : decode code 371 = .ok (.aload_n 0, 1) := by decide +kernel
theorem dL_law_372 : decode code 372 = .ok (.iload_n 3, 1) := by decide +kernel
theorem dL_law_373 : decode code 373 = .ok (.iconst 1, 1) := by decide +kernel
theorem dL_law_374 : decode code 374 = .ok (.iadd, 1) := by decide +kernel
theorem dL_law_375 : decode code 375 = .ok (.iaload, 1) := by decide +kernel
theorem dL_law_376 : decode code 376 = .ok (.aload_n 0, 1) := by decide +kernel
theorem dL_law_377 : decode code 377 = .ok (.iload_n 3, 1) := by decide +kernel
theorem dL_law_378 : decode code 378 = .ok (.iconst 2, 1) := by decide +kernel
theorem dL_law_379 : decode code 379 = .ok (.iadd, 1) := by decide +kernel
theorem dL_law_380 : decode code 380 = .ok (.iaload, 1) := by decide +kernel
theorem dL_law_381 : decode code 381 = .ok (.aload_n 0, 1) := by decide +kernel
theorem dL_law_382 : decode code 382 = .ok (.iload_n 3, 1) := by decide +kernel
theorem dL_law_383 : decode code 383 = .ok (.iconst 3, 1) := by decide +kernel
theorem dL_law_384 : decode code 384 = .ok (.iadd, 1) := by decide +kernel
theorem dL_law_385 : decode code 385 = .ok (.iaload, 1) := by decide +kernel
theorem dL_law_386 : decode code 386 = .ok (.aload_n 0, 1) := by decide +kernel
theorem dL_law_387 : decode code 387 = .ok (.iload_n 3, 1) := by decide +kernel
theorem dL_law_388 : decode code 388 = .ok (.iconst 4, 1) := by decide +kernel
theorem dL_law_389 : decode code 389 = .ok (.iadd, 1) := by decide +kernel
theorem dL_law_390 : decode code 390 = .ok (.iaload, 1) := by decide +kernel
theorem dL_law_391 : decode code 391 = .ok (.aload_n 0, 1) := by decide +kernel
theorem dL_law_392 : decode code 392 = .ok (.iload_n 3, 1) := by decide +kernel
theorem dL_law_393 : decode code 393 = .ok (.iconst 5, 1) := by decide +kernel
theorem dL_law_394 : decode code 394 = .ok (.iadd, 1) := by decide +kernel
theorem dL_law_395 : decode code 395 = .ok (.iaload, 1) := by decide +kernel
theorem dL_law_396 : decode code 396 = .ok (.invokevirtual 31, 3) := by decide +kernel
theorem kw_6_121 : (Jvm.Cond.methodLink "ParishUnionLaw" (31 : Nat) ({ cls := "ParishUnionModel", name := "person", desc := "(IIIII)I" } : Jvm.MethodName)) ∈ gT := gT_of (tb_6 _ (List.mem_of_getElem? (i := 121) rfl)) rfl
theorem kw_6_124 : (Jvm.Cond.code ({ cls := "ParishUnionModel", name := "person", desc := "(IIIII)I" } : Jvm.MethodName) prog_14_method_13_code (8 : Nat) (Option.some Jvm.ClassFile.FieldType.int)) ∈ gT := gT_of (tb_6 _ (List.mem_of_getElem? (i := 124) rfl)) rfl
theorem okX12_person : gQok yX12_person cX12_person 8 (Option.some Jvm.ClassFile.FieldType.int) 5 := ⟨kw_6_124, kw_1_13, by decide +kernel, by decide +kernel, by decide +kernel⟩
theorem kw_6_122 : (Jvm.Cond.instanceMethod ({ cls := "ParishUnionModel", name := "person", desc := "(IIIII)I" } : Jvm.MethodName)) ∈ gT := gT_of (tb_6 _ (List.mem_of_getElem? (i := 122) rfl)) rfl
theorem kw_6_123 : (Jvm.Cond.selects "ParishUnionModel" ({ cls := "ParishUnionModel", name := "person", desc := "(IIIII)I" } : Jvm.MethodName) ({ cls := "ParishUnionModel", name := "person", desc := "(IIIII)I" } : Jvm.MethodName)) ∈ gT := gT_of (tb_6 _ (List.mem_of_getElem? (i := 123) rfl)) rfl
theorem dL_law_399 : decode code 399 = .ok (.if_icmp .eq 1593, 3) := by decide +kernel
set_option maxRecDepth 100000 in
set_option maxHeartbeats 4000000 in
theorem law_case_3 {p : Program} {e : Env} {s : State} {m : MethodId} {below : List Frame} {meth : Method} {c : Code} {l : Launch} {D : va_G} {cA : Nat → ClassId} {b : Nat} {xs : Nat → Int32} (X : gCx p s m #[Value.ref b] meth c s.heap.size D cA "ParishUnionLaw" code 4) (hr : meth.sig.returnType = ret) (hb : b < s.heap.size ∧ va_X b 7 xs s s.heap) {M : gM} (hFr : gFr M) : G p l e room_1 s m #[Value.ref b] below meth c s.heap.size D cA 4 (lw_Z below #[Value.ref b] s) 206 87467 M 206 341 [(3, gJ 0), (2, gA s.heap.size 190), (1, gA s.heap.size 0), (0, .ref b)] [] := by
  obtain ⟨f_0_0, f_0_1, f_0_2, f_0_3, f_0_4, f_0_5, f_0_6, f_0_7, f_0_8, f_0_9, f_1_0, f_1_1, f_1_2, f_1_3, f_1_4, f_1_5, f_1_6, f_1_7, f_1_8, f_1_9, f_1_10, f_1_11, f_1_12, f_1_13, f_1_14, f_1_15, f_2_0, f_2_1, f_5_0, f_7_0, f_9_0, f_9_1, f_9_2, f_9_3, f_9_4, f_9_5, f_15_0, f_15_1, f_15_2, f_15_3, f_15_4, f_15_5, f_15_6, f_15_7, f_15_8, f_15_9, f_23_0, f_23_1, f_26_0, f_26_1, f_26_2, f_26_3, f_87_0, f_87_1, f_87_2, f_87_3, f_87_4, f_153_0, f_153_1, f_153_2, f_153_3, f_153_4, f_159_0, f_190_0, f_190_1, f_190_2, f_190_3, f_190_4, f_190_5, f_190_6, f_190_7, f_190_8, f_190_9, f_190_10, f_190_11, f_190_12, f_190_13, f_190_14, f_190_15, f_190_16, f_190_17, f_190_18, f_190_19, f_190_20, f_190_21, f_190_22, f_190_23, rents, way, beds, frost0, rows0, rooms0, tape0, car0, hS⟩ := hFr
  obtain ⟨v0, e0, r0⟩ : ∃ z : Int, xs 0 = Int32.ofInt z ∧ -2147483648 ≤ z ∧ z ≤ 2147483647 := ⟨_, gi_of _, gi_rg _⟩
  obtain ⟨v1, e1, r1⟩ : ∃ z : Int, xs 1 = Int32.ofInt z ∧ -2147483648 ≤ z ∧ z ≤ 2147483647 := ⟨_, gi_of _, gi_rg _⟩
  obtain ⟨v2, e2, r2⟩ : ∃ z : Int, xs 2 = Int32.ofInt z ∧ -2147483648 ≤ z ∧ z ≤ 2147483647 := ⟨_, gi_of _, gi_rg _⟩
  obtain ⟨v3, e3, r3⟩ : ∃ z : Int, xs 3 = Int32.ofInt z ∧ -2147483648 ≤ z ∧ z ≤ 2147483647 := ⟨_, gi_of _, gi_rg _⟩
  obtain ⟨v4, e4, r4⟩ : ∃ z : Int, xs 4 = Int32.ofInt z ∧ -2147483648 ≤ z ∧ z ≤ 2147483647 := ⟨_, gi_of _, gi_rg _⟩
  obtain ⟨v5, e5, r5⟩ : ∃ z : Int, xs 5 = Int32.ofInt z ∧ -2147483648 ≤ z ∧ z ≤ 2147483647 := ⟨_, gi_of _, gi_rg _⟩
  obtain ⟨v6, e6, r6⟩ : ∃ z : Int, xs 6 = Int32.ofInt z ∧ -2147483648 ≤ z ∧ z ≤ 2147483647 := ⟨_, gi_of _, gi_rg _⟩
  refine g_aload_n (n := 342) X 2 dL_law_341 rfl rfl rfl ?_
  refine g_aload_n (n := 343) X 3 dL_law_342 rfl rfl rfl ?_
  refine g_iload_n (n := 344) X 0 dL_law_343 rfl rfl rfl ?_
  refine g_iconst (n := 345) X dL_law_344 rfl ?_
  refine g_iadd (n := 346) (z := 1) X dL_law_345 rfl rfl ?_
  refine g_scrld (n := 347) (z := v1) X hb (by omega) (by omega) (by omega) dL_law_346 rfl e1 ?_
  refine g_aload_n (n := 348) X 3 dL_law_347 rfl rfl rfl ?_
  refine g_iload_n (n := 349) X 0 dL_law_348 rfl rfl rfl ?_
  refine g_iconst (n := 350) X dL_law_349 rfl ?_
  refine g_iadd (n := 351) (z := 2) X dL_law_350 rfl rfl ?_
  refine g_scrld (n := 352) (z := v2) X hb (by omega) (by omega) (by omega) dL_law_351 rfl e2 ?_
  refine g_aload_n (n := 353) X 3 dL_law_352 rfl rfl rfl ?_
  refine g_iload_n (n := 354) X 0 dL_law_353 rfl rfl rfl ?_
  refine g_iconst (n := 355) X dL_law_354 rfl ?_
  refine g_iadd (n := 356) (z := 3) X dL_law_355 rfl rfl ?_
  refine g_scrld (n := 357) (z := v3) X hb (by omega) (by omega) (by omega) dL_law_356 rfl e3 ?_
  refine g_aload_n (n := 358) X 3 dL_law_357 rfl rfl rfl ?_
  refine g_iload_n (n := 359) X 0 dL_law_358 rfl rfl rfl ?_
  refine g_iconst (n := 360) X dL_law_359 rfl ?_
  refine g_iadd (n := 361) (z := 4) X dL_law_360 rfl rfl ?_
  refine g_scrld (n := 362) (z := v4) X hb (by omega) (by omega) (by omega) dL_law_361 rfl e4 ?_
  refine g_aload_n (n := 363) X 3 dL_law_362 rfl rfl rfl ?_
  refine g_iload_n (n := 364) X 0 dL_law_363 rfl rfl rfl ?_
  refine g_iconst (n := 365) X dL_law_364 rfl ?_
  refine g_iadd (n := 366) (z := 5) X dL_law_365 rfl rfl ?_
  refine g_scrld (n := 367) (z := v5) X hb (by omega) (by omega) (by omega) dL_law_366 rfl e5 ?_
  refine g_callVi (n := 370) (As := [gJ v1, gJ v2, gJ v3, gJ v4, gJ v5]) (rest := []) (cs1 := 206) (ss1 := 87467) X (c_X11_person v1 v2 v3 v4 v5 (by omega) (by omega) (by omega) (by omega) (by omega) (by omega) f_0_0 f_1_10 f_1_15 f_1_1 f_5_0) okX11_person kw_3_52 ⟨kw_3_53, kw_3_54⟩ ⟨rfl, rfl⟩ ⟨Nat.le_of_ble_eq_true rfl, Nat.le_of_ble_eq_true rfl⟩ rfl (by omega) (by omega) lay_0 rfl rfl (Nat.le_of_ble_eq_true rfl) ⟨Nat.le_of_ble_eq_true rfl, Nat.le_of_ble_eq_true rfl⟩ rfl rfl dL_law_367 rfl (fun z1 M2 P3 => ?_)
  obtain ⟨P3, F4⟩ := P3
  refine g_aload_n (n := 371) X 1 dL_law_370 rfl rfl rfl ?_
  refine g_aload_n (n := 372) X 3 dL_law_371 rfl rfl rfl ?_
  refine g_iload_n (n := 373) X 0 dL_law_372 rfl rfl rfl ?_
  refine g_iconst (n := 374) X dL_law_373 rfl ?_
  refine g_iadd (n := 375) (z := 1) X dL_law_374 rfl rfl ?_
  refine g_scrld (n := 376) (z := v1) X hb (by omega) (by omega) (by omega) dL_law_375 rfl e1 ?_
  refine g_aload_n (n := 377) X 3 dL_law_376 rfl rfl rfl ?_
  refine g_iload_n (n := 378) X 0 dL_law_377 rfl rfl rfl ?_
  refine g_iconst (n := 379) X dL_law_378 rfl ?_
  refine g_iadd (n := 380) (z := 2) X dL_law_379 rfl rfl ?_
  refine g_scrld (n := 381) (z := v2) X hb (by omega) (by omega) (by omega) dL_law_380 rfl e2 ?_
  refine g_aload_n (n := 382) X 3 dL_law_381 rfl rfl rfl ?_
  refine g_iload_n (n := 383) X 0 dL_law_382 rfl rfl rfl ?_
  refine g_iconst (n := 384) X dL_law_383 rfl ?_
  refine g_iadd (n := 385) (z := 3) X dL_law_384 rfl rfl ?_
  refine g_scrld (n := 386) (z := v3) X hb (by omega) (by omega) (by omega) dL_law_385 rfl e3 ?_
  refine g_aload_n (n := 387) X 3 dL_law_386 rfl rfl rfl ?_
  refine g_iload_n (n := 388) X 0 dL_law_387 rfl rfl rfl ?_
  refine g_iconst (n := 389) X dL_law_388 rfl ?_
  refine g_iadd (n := 390) (z := 4) X dL_law_389 rfl rfl ?_
  refine g_scrld (n := 391) (z := v4) X hb (by omega) (by omega) (by omega) dL_law_390 rfl e4 ?_
  refine g_aload_n (n := 392) X 3 dL_law_391 rfl rfl rfl ?_
  refine g_iload_n (n := 393) X 0 dL_law_392 rfl rfl rfl ?_
  refine g_iconst (n := 394) X dL_law_393 rfl ?_
  refine g_iadd (n := 395) (z := 5) X dL_law_394 rfl rfl ?_
  refine g_scrld (n := 396) (z := v5) X hb (by omega) (by omega) (by omega) dL_law_395 rfl e5 ?_
  refine g_callVi (n := 399) (As := [gJ v1, gJ v2, gJ v3, gJ v4, gJ v5]) (rest := [gJ z1]) (cs1 := 206) (ss1 := 87467) X (c_X12_person v1 v2 v3 v4 v5 (by omega) (by omega) (by omega) (by omega) (by omega) (by omega) ((congrFun (F4 190 (by omega) (by omega)) _).trans f_190_1) ((congrFun (F4 191 (by omega) (by omega)) _).trans ((hS 0 (by omega) (by omega)).trans (by decide))) ((congrFun (F4 191 (by omega) (by omega)) _).trans ((hS 1 (by omega) (by omega)).trans (by decide))) ((congrFun (F4 190 (by omega) (by omega)) _).trans f_190_19)) okX12_person kw_6_121 ⟨kw_6_122, kw_6_123⟩ ⟨rfl, rfl⟩ ⟨Nat.le_of_ble_eq_true rfl, Nat.le_of_ble_eq_true rfl⟩ rfl (by omega) (by omega) lay_190 rfl rfl (Nat.le_of_ble_eq_true rfl) ⟨Nat.le_of_ble_eq_true rfl, Nat.le_of_ble_eq_true rfl⟩ rfl rfl dL_law_396 rfl (fun z5 M6 P7 => ?_)
  obtain ⟨P7, F8⟩ := P7
  refine g_icmp_eq (n := 402) (tgt := 1992) X dL_law_399 (by decide) (by omega) (by omega) rfl (fun c9 => ?_) (fun c9 => by exfalso; omega)
  exact law_tail X hr hb (by omega) (by omega)
theorem dL_law_404 : decode code 404 = .ok (.aload_n 1, 1) := by decide +kernel
theorem dL_law_405 : decode code 405 = .ok (.aload_n 0, 1) := by decide +kernel
theorem dL_law_406 : decode code 406 = .ok (.iload_n 3, 1) := by decide +kernel
theorem dL_law_407 : decode code 407 = .ok (.iconst 1, 1) := by decide +kernel
theorem dL_law_408 : decode code 408 = .ok (.iadd, 1) := by decide +kernel
theorem dL_law_409 : decode code 409 = .ok (.iaload, 1) := by decide +kernel
theorem dL_law_410 : decode code 410 = .ok (.aload_n 0, 1) := by decide +kernel
theorem dL_law_411 : decode code 411 = .ok (.iload_n 3, 1) := by decide +kernel
theorem dL_law_412 : decode code 412 = .ok (.iconst 2, 1) := by decide +kernel
theorem dL_law_413 : decode code 413 = .ok (.iadd, 1) := by decide +kernel
theorem dL_law_414 : decode code 414 = .ok (.iaload, 1) := by decide +kernel
theorem dL_law_415 : decode code 415 = .ok (.invokevirtual 32, 3) := by decide +kernel
theorem kw_3_68 : (Jvm.Cond.methodLink "ParishUnionLaw" (32 : Nat) ({ cls := "ParishUnion", name := "about", desc := "(II)I" } : Jvm.MethodName)) ∈ gT := gT_of (tb_3 _ (List.mem_of_getElem? (i := 68) rfl)) rfl
theorem kw_3_71 : (Jvm.Cond.code ({ cls := "ParishUnion", name := "about", desc := "(II)I" } : Jvm.MethodName) prog_1_method_6_code (4 : Nat) (Option.some Jvm.ClassFile.FieldType.int)) ∈ gT := gT_of (tb_3 _ (List.mem_of_getElem? (i := 71) rfl)) rfl
theorem okX11_about : gQok yX11_about cX11_about 4 (Option.some Jvm.ClassFile.FieldType.int) 2 := ⟨kw_3_71, kw_1_1, by decide +kernel, by decide +kernel, by decide +kernel⟩
theorem kw_3_69 : (Jvm.Cond.instanceMethod ({ cls := "ParishUnion", name := "about", desc := "(II)I" } : Jvm.MethodName)) ∈ gT := gT_of (tb_3 _ (List.mem_of_getElem? (i := 69) rfl)) rfl
theorem kw_3_70 : (Jvm.Cond.selects "ParishUnion" ({ cls := "ParishUnion", name := "about", desc := "(II)I" } : Jvm.MethodName) ({ cls := "ParishUnion", name := "about", desc := "(II)I" } : Jvm.MethodName)) ∈ gT := gT_of (tb_3 _ (List.mem_of_getElem? (i := 70) rfl)) rfl
theorem dL_law_418 : decode code 418 = .ok (.aload_n 2, 1) := by decide +kernel
theorem dL_law_419 : decode code 419 = .ok (.aload_n 0, 1) := by decide +kernel
theorem dL_law_420 : decode code 420 = .ok (.iload_n 3, 1) := by decide +kernel
theorem dL_law_421 : decode code 421 = .ok (.iconst 1, 1) := by decide +kernel
theorem dL_law_422 : decode code 422 = .ok (.iadd, 1) := by decide +kernel
theorem dL_law_423 : decode code 423 = .ok (.iaload, 1) := by decide +kernel
theorem dL_law_424 : decode code 424 = .ok (.aload_n 0, 1) := by decide +kernel
theorem dL_law_425 : decode code 425 = .ok (.iload_n 3, 1) := by decide +kernel
theorem dL_law_426 : decode code 426 = .ok (.iconst 2, 1) := by decide +kernel
theorem dL_law_427 : decode code 427 = .ok (.iadd, 1) := by decide +kernel
theorem dL_law_428 : decode code 428 = .ok (.iaload, 1) := by decide +kernel
theorem dL_law_429 : decode code 429 = .ok (.invokevirtual 35, 3) := by decide +kernel
theorem kw_6_129 : (Jvm.Cond.methodLink "ParishUnionLaw" (35 : Nat) ({ cls := "ParishUnionModel", name := "about", desc := "(II)I" } : Jvm.MethodName)) ∈ gT := gT_of (tb_6 _ (List.mem_of_getElem? (i := 129) rfl)) rfl
theorem kw_6_132 : (Jvm.Cond.code ({ cls := "ParishUnionModel", name := "about", desc := "(II)I" } : Jvm.MethodName) prog_14_method_14_code (3 : Nat) (Option.some Jvm.ClassFile.FieldType.int)) ∈ gT := gT_of (tb_6 _ (List.mem_of_getElem? (i := 132) rfl)) rfl
theorem okX12_about : gQok yX12_about cX12_about 3 (Option.some Jvm.ClassFile.FieldType.int) 2 := ⟨kw_6_132, kw_1_13, by decide +kernel, by decide +kernel, by decide +kernel⟩
theorem kw_6_130 : (Jvm.Cond.instanceMethod ({ cls := "ParishUnionModel", name := "about", desc := "(II)I" } : Jvm.MethodName)) ∈ gT := gT_of (tb_6 _ (List.mem_of_getElem? (i := 130) rfl)) rfl
theorem kw_6_131 : (Jvm.Cond.selects "ParishUnionModel" ({ cls := "ParishUnionModel", name := "about", desc := "(II)I" } : Jvm.MethodName) ({ cls := "ParishUnionModel", name := "about", desc := "(II)I" } : Jvm.MethodName)) ∈ gT := gT_of (tb_6 _ (List.mem_of_getElem? (i := 131) rfl)) rfl
theorem dL_law_432 : decode code 432 = .ok (.if_icmp .eq 1560, 3) := by decide +kernel
set_option maxRecDepth 100000 in
set_option maxHeartbeats 4000000 in
theorem law_case_4 {p : Program} {e : Env} {s : State} {m : MethodId} {below : List Frame} {meth : Method} {c : Code} {l : Launch} {D : va_G} {cA : Nat → ClassId} {b : Nat} {xs : Nat → Int32} (X : gCx p s m #[Value.ref b] meth c s.heap.size D cA "ParishUnionLaw" code 4) (hr : meth.sig.returnType = ret) (hb : b < s.heap.size ∧ va_X b 7 xs s s.heap) {M : gM} (hFr : gFr M) : G p l e room_1 s m #[Value.ref b] below meth c s.heap.size D cA 4 (lw_Z below #[Value.ref b] s) 206 87467 M 206 404 [(3, gJ 0), (2, gA s.heap.size 190), (1, gA s.heap.size 0), (0, .ref b)] [] := by
  obtain ⟨f_0_0, f_0_1, f_0_2, f_0_3, f_0_4, f_0_5, f_0_6, f_0_7, f_0_8, f_0_9, f_1_0, f_1_1, f_1_2, f_1_3, f_1_4, f_1_5, f_1_6, f_1_7, f_1_8, f_1_9, f_1_10, f_1_11, f_1_12, f_1_13, f_1_14, f_1_15, f_2_0, f_2_1, f_5_0, f_7_0, f_9_0, f_9_1, f_9_2, f_9_3, f_9_4, f_9_5, f_15_0, f_15_1, f_15_2, f_15_3, f_15_4, f_15_5, f_15_6, f_15_7, f_15_8, f_15_9, f_23_0, f_23_1, f_26_0, f_26_1, f_26_2, f_26_3, f_87_0, f_87_1, f_87_2, f_87_3, f_87_4, f_153_0, f_153_1, f_153_2, f_153_3, f_153_4, f_159_0, f_190_0, f_190_1, f_190_2, f_190_3, f_190_4, f_190_5, f_190_6, f_190_7, f_190_8, f_190_9, f_190_10, f_190_11, f_190_12, f_190_13, f_190_14, f_190_15, f_190_16, f_190_17, f_190_18, f_190_19, f_190_20, f_190_21, f_190_22, f_190_23, rents, way, beds, frost0, rows0, rooms0, tape0, car0, hS⟩ := hFr
  obtain ⟨v0, e0, r0⟩ : ∃ z : Int, xs 0 = Int32.ofInt z ∧ -2147483648 ≤ z ∧ z ≤ 2147483647 := ⟨_, gi_of _, gi_rg _⟩
  obtain ⟨v1, e1, r1⟩ : ∃ z : Int, xs 1 = Int32.ofInt z ∧ -2147483648 ≤ z ∧ z ≤ 2147483647 := ⟨_, gi_of _, gi_rg _⟩
  obtain ⟨v2, e2, r2⟩ : ∃ z : Int, xs 2 = Int32.ofInt z ∧ -2147483648 ≤ z ∧ z ≤ 2147483647 := ⟨_, gi_of _, gi_rg _⟩
  obtain ⟨v3, e3, r3⟩ : ∃ z : Int, xs 3 = Int32.ofInt z ∧ -2147483648 ≤ z ∧ z ≤ 2147483647 := ⟨_, gi_of _, gi_rg _⟩
  obtain ⟨v4, e4, r4⟩ : ∃ z : Int, xs 4 = Int32.ofInt z ∧ -2147483648 ≤ z ∧ z ≤ 2147483647 := ⟨_, gi_of _, gi_rg _⟩
  obtain ⟨v5, e5, r5⟩ : ∃ z : Int, xs 5 = Int32.ofInt z ∧ -2147483648 ≤ z ∧ z ≤ 2147483647 := ⟨_, gi_of _, gi_rg _⟩
  obtain ⟨v6, e6, r6⟩ : ∃ z : Int, xs 6 = Int32.ofInt z ∧ -2147483648 ≤ z ∧ z ≤ 2147483647 := ⟨_, gi_of _, gi_rg _⟩
  refine g_aload_n (n := 405) X 2 dL_law_404 rfl rfl rfl ?_
  refine g_aload_n (n := 406) X 3 dL_law_405 rfl rfl rfl ?_
  refine g_iload_n (n := 407) X 0 dL_law_406 rfl rfl rfl ?_
  refine g_iconst (n := 408) X dL_law_407 rfl ?_
  refine g_iadd (n := 409) (z := 1) X dL_law_408 rfl rfl ?_
  refine g_scrld (n := 410) (z := v1) X hb (by omega) (by omega) (by omega) dL_law_409 rfl e1 ?_
  refine g_aload_n (n := 411) X 3 dL_law_410 rfl rfl rfl ?_
  refine g_iload_n (n := 412) X 0 dL_law_411 rfl rfl rfl ?_
  refine g_iconst (n := 413) X dL_law_412 rfl ?_
  refine g_iadd (n := 414) (z := 2) X dL_law_413 rfl rfl ?_
  refine g_scrld (n := 415) (z := v2) X hb (by omega) (by omega) (by omega) dL_law_414 rfl e2 ?_
  refine g_callVi (n := 418) (As := [gJ v1, gJ v2]) (rest := []) (cs1 := 206) (ss1 := 87467) X (c_X11_about v1 v2 (by omega) (by omega) (by omega) f_0_0 f_1_10) okX11_about kw_3_68 ⟨kw_3_69, kw_3_70⟩ ⟨rfl, rfl⟩ ⟨Nat.le_of_ble_eq_true rfl, Nat.le_of_ble_eq_true rfl⟩ rfl (by omega) (by omega) lay_0 rfl rfl (Nat.le_of_ble_eq_true rfl) ⟨Nat.le_of_ble_eq_true rfl, Nat.le_of_ble_eq_true rfl⟩ rfl rfl dL_law_415 rfl (fun z1 M2 P3 => ?_)
  obtain ⟨P3, F4⟩ := P3
  refine g_aload_n (n := 419) X 1 dL_law_418 rfl rfl rfl ?_
  refine g_aload_n (n := 420) X 3 dL_law_419 rfl rfl rfl ?_
  refine g_iload_n (n := 421) X 0 dL_law_420 rfl rfl rfl ?_
  refine g_iconst (n := 422) X dL_law_421 rfl ?_
  refine g_iadd (n := 423) (z := 1) X dL_law_422 rfl rfl ?_
  refine g_scrld (n := 424) (z := v1) X hb (by omega) (by omega) (by omega) dL_law_423 rfl e1 ?_
  refine g_aload_n (n := 425) X 3 dL_law_424 rfl rfl rfl ?_
  refine g_iload_n (n := 426) X 0 dL_law_425 rfl rfl rfl ?_
  refine g_iconst (n := 427) X dL_law_426 rfl ?_
  refine g_iadd (n := 428) (z := 2) X dL_law_427 rfl rfl ?_
  refine g_scrld (n := 429) (z := v2) X hb (by omega) (by omega) (by omega) dL_law_428 rfl e2 ?_
  refine g_callVi (n := 432) (As := [gJ v1, gJ v2]) (rest := [gJ z1]) (cs1 := 206) (ss1 := 87467) X (c_X12_about v1 v2 (by omega) (by omega) (by omega) ((congrFun (F4 190) _).trans f_190_1) ((congrFun (F4 191) _).trans ((hS 1 (by omega) (by omega)).trans (by decide)))) okX12_about kw_6_129 ⟨kw_6_130, kw_6_131⟩ ⟨rfl, rfl⟩ ⟨Nat.le_of_ble_eq_true rfl, Nat.le_of_ble_eq_true rfl⟩ rfl (by omega) (by omega) lay_190 rfl rfl (Nat.le_of_ble_eq_true rfl) ⟨Nat.le_of_ble_eq_true rfl, Nat.le_of_ble_eq_true rfl⟩ rfl rfl dL_law_429 rfl (fun z5 M6 P7 => ?_)
  obtain ⟨P7, F8⟩ := P7
  refine g_icmp_eq (n := 435) (tgt := 1992) X dL_law_432 (by decide) (by omega) (by omega) rfl (fun c9 => ?_) (fun c9 => by exfalso; omega)
  exact law_tail X hr hb (by omega) (by omega)
theorem dL_law_437 : decode code 437 = .ok (.aload_n 1, 1) := by decide +kernel
theorem dL_law_438 : decode code 438 = .ok (.aload_n 0, 1) := by decide +kernel
theorem dL_law_439 : decode code 439 = .ok (.iload_n 3, 1) := by decide +kernel
theorem dL_law_440 : decode code 440 = .ok (.iconst 1, 1) := by decide +kernel
theorem dL_law_441 : decode code 441 = .ok (.iadd, 1) := by decide +kernel
theorem dL_law_442 : decode code 442 = .ok (.iaload, 1) := by decide +kernel
theorem dL_law_443 : decode code 443 = .ok (.aload_n 0, 1) := by decide +kernel
theorem dL_law_444 : decode code 444 = .ok (.iload_n 3, 1) := by decide +kernel
theorem dL_law_445 : decode code 445 = .ok (.iconst 2, 1) := by decide +kernel
theorem dL_law_446 : decode code 446 = .ok (.iadd, 1) := by decide +kernel
theorem dL_law_447 : decode code 447 = .ok (.iaload, 1) := by decide +kernel
theorem dL_law_448 : decode code 448 = .ok (.aload_n 0, 1) := by decide +kernel
theorem dL_law_449 : decode code 449 = .ok (.iload_n 3, 1) := by decide +kernel
theorem dL_law_450 : decode code 450 = .ok (.iconst 3, 1) := by decide +kernel
theorem dL_law_451 : decode code 451 = .ok (.iadd, 1) := by decide +kernel
theorem dL_law_452 : decode code 452 = .ok (.iaload, 1) := by decide +kernel
theorem dL_law_453 : decode code 453 = .ok (.aload_n 0, 1) := by decide +kernel
theorem dL_law_454 : decode code 454 = .ok (.iload_n 3, 1) := by decide +kernel
theorem dL_law_455 : decode code 455 = .ok (.iconst 4, 1) := by decide +kernel
theorem dL_law_456 : decode code 456 = .ok (.iadd, 1) := by decide +kernel
theorem dL_law_457 : decode code 457 = .ok (.iaload, 1) := by decide +kernel
theorem dL_law_458 : decode code 458 = .ok (.aload_n 0, 1) := by decide +kernel
theorem dL_law_459 : decode code 459 = .ok (.iload_n 3, 1) := by decide +kernel
theorem dL_law_460 : decode code 460 = .ok (.iconst 5, 1) := by decide +kernel
theorem dL_law_461 : decode code 461 = .ok (.iadd, 1) := by decide +kernel
theorem dL_law_462 : decode code 462 = .ok (.iaload, 1) := by decide +kernel
theorem dL_law_463 : decode code 463 = .ok (.ifCond .eq 7, 3) := by decide +kernel
theorem dL_law_470 : decode code 470 = .ok (.iconst 0, 1) := by decide +kernel
theorem dL_law_471 : decode code 471 = .ok (.aload_n 0, 1) := by decide +kernel
theorem dL_law_472 : decode code 472 = .ok (.iload_n 3, 1) := by decide +kernel
theorem dL_law_473 : decode code 473 = .ok (.bipush 6, 2) := by decide +kernel
theorem dL_law_475 : decode code 475 = .ok (.iadd, 1) := by decide +kernel
theorem dL_law_476 : decode code 476 = .ok (.iaload, 1) := by decide +kernel
theorem dL_law_477 : decode code 477 = .ok (.ifCond .eq 7, 3) := by decide +kernel
theorem dL_law_484 : decode code 484 = .ok (.iconst 0, 1) := by decide +kernel
theorem dL_law_485 : decode code 485 = .ok (.invokevirtual 36, 3) := by decide +kernel
theorem kw_3_72 : (Jvm.Cond.methodLink "ParishUnionLaw" (36 : Nat) ({ cls := "ParishUnion", name := "hire", desc := "(IIIIZZ)I" } : Jvm.MethodName)) ∈ gT := gT_of (tb_3 _ (List.mem_of_getElem? (i := 72) rfl)) rfl
theorem kw_3_75 : (Jvm.Cond.code ({ cls := "ParishUnion", name := "hire", desc := "(IIIIZZ)I" } : Jvm.MethodName) prog_1_method_7_code (7 : Nat) (Option.some Jvm.ClassFile.FieldType.int)) ∈ gT := gT_of (tb_3 _ (List.mem_of_getElem? (i := 75) rfl)) rfl
theorem okX11_hire : gQok yX11_hire cX11_hire 7 (Option.some Jvm.ClassFile.FieldType.int) 6 := ⟨kw_3_75, kw_1_1, by decide +kernel, by decide +kernel, by decide +kernel⟩
theorem kw_3_73 : (Jvm.Cond.instanceMethod ({ cls := "ParishUnion", name := "hire", desc := "(IIIIZZ)I" } : Jvm.MethodName)) ∈ gT := gT_of (tb_3 _ (List.mem_of_getElem? (i := 73) rfl)) rfl
theorem kw_3_74 : (Jvm.Cond.selects "ParishUnion" ({ cls := "ParishUnion", name := "hire", desc := "(IIIIZZ)I" } : Jvm.MethodName) ({ cls := "ParishUnion", name := "hire", desc := "(IIIIZZ)I" } : Jvm.MethodName)) ∈ gT := gT_of (tb_3 _ (List.mem_of_getElem? (i := 74) rfl)) rfl
theorem dL_law_488 : decode code 488 = .ok (.aload_n 2, 1) := by decide +kernel
theorem dL_law_489 : decode code 489 = .ok (.aload_n 0, 1) := by decide +kernel
theorem dL_law_490 : decode code 490 = .ok (.iload_n 3, 1) := by decide +kernel
theorem dL_law_491 : decode code 491 = .ok (.iconst 1, 1) := by decide +kernel
theorem dL_law_492 : decode code 492 = .ok (.iadd, 1) := by decide +kernel
theorem dL_law_493 : decode code 493 = .ok (.iaload, 1) := by decide +kernel
theorem dL_law_494 : decode code 494 = .ok (.aload_n 0, 1) := by decide +kernel
theorem dL_law_495 : decode code 495 = .ok (.iload_n 3, 1) := by decide +kernel
theorem dL_law_496 : decode code 496 = .ok (.iconst 2, 1) := by decide +kernel
theorem dL_law_497 : decode code 497 = .ok (.iadd, 1) := by decide +kernel
theorem dL_law_498 : decode code 498 = .ok (.iaload, 1) := by decide +kernel
theorem dL_law_499 : decode code 499 = .ok (.aload_n 0, 1) := by decide +kernel
theorem dL_law_500 : decode code 500 = .ok (.iload_n 3, 1) := by decide +kernel
theorem dL_law_501 : decode code 501 = .ok (.iconst 3, 1) := by decide +kernel
theorem dL_law_502 : decode code 502 = .ok (.iadd, 1) := by decide +kernel
theorem dL_law_503 : decode code 503 = .ok (.iaload, 1) := by decide +kernel
theorem dL_law_504 : decode code 504 = .ok (.aload_n 0, 1) := by decide +kernel
theorem dL_law_505 : decode code 505 = .ok (.iload_n 3, 1) := by decide +kernel
theorem dL_law_506 : decode code 506 = .ok (.iconst 4, 1) := by decide +kernel
theorem dL_law_507 : decode code 507 = .ok (.iadd, 1) := by decide +kernel
theorem dL_law_508 : decode code 508 = .ok (.iaload, 1) := by decide +kernel
theorem dL_law_509 : decode code 509 = .ok (.aload_n 0, 1) := by decide +kernel
theorem dL_law_510 : decode code 510 = .ok (.iload_n 3, 1) := by decide +kernel
theorem dL_law_511 : decode code 511 = .ok (.iconst 5, 1) := by decide +kernel
theorem dL_law_512 : decode code 512 = .ok (.iadd, 1) := by decide +kernel
theorem dL_law_513 : decode code 513 = .ok (.iaload, 1) := by decide +kernel
theorem dL_law_514 : decode code 514 = .ok (.ifCond .eq 7, 3) := by decide +kernel
theorem dL_law_521 : decode code 521 = .ok (.iconst 0, 1) := by decide +kernel
theorem dL_law_522 : decode code 522 = .ok (.aload_n 0, 1) := by decide +kernel
theorem dL_law_523 : decode code 523 = .ok (.iload_n 3, 1) := by decide +kernel
theorem dL_law_524 : decode code 524 = .ok (.bipush 6, 2) := by decide +kernel
theorem dL_law_526 : decode code 526 = .ok (.iadd, 1) := by decide +kernel
theorem dL_law_527 : decode code 527 = .ok (.iaload, 1) := by decide +kernel
theorem dL_law_528 : decode code 528 = .ok (.ifCond .eq 7, 3) := by decide +kernel
theorem dL_law_535 : decode code 535 = .ok (.iconst 0, 1) := by decide +kernel
theorem dL_law_536 : decode code 536 = .ok (.invokevirtual 40, 3) := by decide +kernel
theorem kw_6_133 : (Jvm.Cond.methodLink "ParishUnionLaw" (40 : Nat) ({ cls := "ParishUnionModel", name := "hire", desc := "(IIIIZZ)I" } : Jvm.MethodName)) ∈ gT := gT_of (tb_6 _ (List.mem_of_getElem? (i := 133) rfl)) rfl
theorem kw_6_136 : (Jvm.Cond.code ({ cls := "ParishUnionModel", name := "hire", desc := "(IIIIZZ)I" } : Jvm.MethodName) prog_14_method_18_code (7 : Nat) (Option.some Jvm.ClassFile.FieldType.int)) ∈ gT := gT_of (tb_6 _ (List.mem_of_getElem? (i := 136) rfl)) rfl
theorem okX12_hire : gQok yX12_hire cX12_hire 7 (Option.some Jvm.ClassFile.FieldType.int) 6 := ⟨kw_6_136, kw_1_13, by decide +kernel, by decide +kernel, by decide +kernel⟩
theorem kw_6_134 : (Jvm.Cond.instanceMethod ({ cls := "ParishUnionModel", name := "hire", desc := "(IIIIZZ)I" } : Jvm.MethodName)) ∈ gT := gT_of (tb_6 _ (List.mem_of_getElem? (i := 134) rfl)) rfl
theorem kw_6_135 : (Jvm.Cond.selects "ParishUnionModel" ({ cls := "ParishUnionModel", name := "hire", desc := "(IIIIZZ)I" } : Jvm.MethodName) ({ cls := "ParishUnionModel", name := "hire", desc := "(IIIIZZ)I" } : Jvm.MethodName)) ∈ gT := gT_of (tb_6 _ (List.mem_of_getElem? (i := 135) rfl)) rfl
theorem dL_law_539 : decode code 539 = .ok (.if_icmp .eq 1453, 3) := by decide +kernel
theorem dL_law_531 : decode code 531 = .ok (.iconst 1, 1) := by decide +kernel
theorem dL_law_532 : decode code 532 = .ok (.goto 4, 3) := by decide +kernel
theorem dL_law_517 : decode code 517 = .ok (.iconst 1, 1) := by decide +kernel
theorem dL_law_518 : decode code 518 = .ok (.goto 4, 3) := by decide +kernel
theorem dL_law_480 : decode code 480 = .ok (.iconst 1, 1) := by decide +kernel
theorem dL_law_481 : decode code 481 = .ok (.goto 4, 3) := by decide +kernel
theorem dL_law_466 : decode code 466 = .ok (.iconst 1, 1) := by decide +kernel
theorem dL_law_467 : decode code 467 = .ok (.goto 4, 3) := by decide +kernel
set_option maxRecDepth 100000 in
set_option maxHeartbeats 4000000 in
theorem law_case_5 {p : Program} {e : Env} {s : State} {m : MethodId} {below : List Frame} {meth : Method} {c : Code} {l : Launch} {D : va_G} {cA : Nat → ClassId} {b : Nat} {xs : Nat → Int32} (X : gCx p s m #[Value.ref b] meth c s.heap.size D cA "ParishUnionLaw" code 4) (hr : meth.sig.returnType = ret) (hb : b < s.heap.size ∧ va_X b 7 xs s s.heap) {M : gM} (hFr : gFr M) : G p l e room_1 s m #[Value.ref b] below meth c s.heap.size D cA 4 (lw_Z below #[Value.ref b] s) 206 87467 M 206 437 [(3, gJ 0), (2, gA s.heap.size 190), (1, gA s.heap.size 0), (0, .ref b)] [] := by
  obtain ⟨f_0_0, f_0_1, f_0_2, f_0_3, f_0_4, f_0_5, f_0_6, f_0_7, f_0_8, f_0_9, f_1_0, f_1_1, f_1_2, f_1_3, f_1_4, f_1_5, f_1_6, f_1_7, f_1_8, f_1_9, f_1_10, f_1_11, f_1_12, f_1_13, f_1_14, f_1_15, f_2_0, f_2_1, f_5_0, f_7_0, f_9_0, f_9_1, f_9_2, f_9_3, f_9_4, f_9_5, f_15_0, f_15_1, f_15_2, f_15_3, f_15_4, f_15_5, f_15_6, f_15_7, f_15_8, f_15_9, f_23_0, f_23_1, f_26_0, f_26_1, f_26_2, f_26_3, f_87_0, f_87_1, f_87_2, f_87_3, f_87_4, f_153_0, f_153_1, f_153_2, f_153_3, f_153_4, f_159_0, f_190_0, f_190_1, f_190_2, f_190_3, f_190_4, f_190_5, f_190_6, f_190_7, f_190_8, f_190_9, f_190_10, f_190_11, f_190_12, f_190_13, f_190_14, f_190_15, f_190_16, f_190_17, f_190_18, f_190_19, f_190_20, f_190_21, f_190_22, f_190_23, rents, way, beds, frost0, rows0, rooms0, tape0, car0, hS⟩ := hFr
  obtain ⟨v0, e0, r0⟩ : ∃ z : Int, xs 0 = Int32.ofInt z ∧ -2147483648 ≤ z ∧ z ≤ 2147483647 := ⟨_, gi_of _, gi_rg _⟩
  obtain ⟨v1, e1, r1⟩ : ∃ z : Int, xs 1 = Int32.ofInt z ∧ -2147483648 ≤ z ∧ z ≤ 2147483647 := ⟨_, gi_of _, gi_rg _⟩
  obtain ⟨v2, e2, r2⟩ : ∃ z : Int, xs 2 = Int32.ofInt z ∧ -2147483648 ≤ z ∧ z ≤ 2147483647 := ⟨_, gi_of _, gi_rg _⟩
  obtain ⟨v3, e3, r3⟩ : ∃ z : Int, xs 3 = Int32.ofInt z ∧ -2147483648 ≤ z ∧ z ≤ 2147483647 := ⟨_, gi_of _, gi_rg _⟩
  obtain ⟨v4, e4, r4⟩ : ∃ z : Int, xs 4 = Int32.ofInt z ∧ -2147483648 ≤ z ∧ z ≤ 2147483647 := ⟨_, gi_of _, gi_rg _⟩
  obtain ⟨v5, e5, r5⟩ : ∃ z : Int, xs 5 = Int32.ofInt z ∧ -2147483648 ≤ z ∧ z ≤ 2147483647 := ⟨_, gi_of _, gi_rg _⟩
  obtain ⟨v6, e6, r6⟩ : ∃ z : Int, xs 6 = Int32.ofInt z ∧ -2147483648 ≤ z ∧ z ≤ 2147483647 := ⟨_, gi_of _, gi_rg _⟩
  refine g_aload_n (n := 438) X 2 dL_law_437 rfl rfl rfl ?_
  refine g_aload_n (n := 439) X 3 dL_law_438 rfl rfl rfl ?_
  refine g_iload_n (n := 440) X 0 dL_law_439 rfl rfl rfl ?_
  refine g_iconst (n := 441) X dL_law_440 rfl ?_
  refine g_iadd (n := 442) (z := 1) X dL_law_441 rfl rfl ?_
  refine g_scrld (n := 443) (z := v1) X hb (by omega) (by omega) (by omega) dL_law_442 rfl e1 ?_
  refine g_aload_n (n := 444) X 3 dL_law_443 rfl rfl rfl ?_
  refine g_iload_n (n := 445) X 0 dL_law_444 rfl rfl rfl ?_
  refine g_iconst (n := 446) X dL_law_445 rfl ?_
  refine g_iadd (n := 447) (z := 2) X dL_law_446 rfl rfl ?_
  refine g_scrld (n := 448) (z := v2) X hb (by omega) (by omega) (by omega) dL_law_447 rfl e2 ?_
  refine g_aload_n (n := 449) X 3 dL_law_448 rfl rfl rfl ?_
  refine g_iload_n (n := 450) X 0 dL_law_449 rfl rfl rfl ?_
  refine g_iconst (n := 451) X dL_law_450 rfl ?_
  refine g_iadd (n := 452) (z := 3) X dL_law_451 rfl rfl ?_
  refine g_scrld (n := 453) (z := v3) X hb (by omega) (by omega) (by omega) dL_law_452 rfl e3 ?_
  refine g_aload_n (n := 454) X 3 dL_law_453 rfl rfl rfl ?_
  refine g_iload_n (n := 455) X 0 dL_law_454 rfl rfl rfl ?_
  refine g_iconst (n := 456) X dL_law_455 rfl ?_
  refine g_iadd (n := 457) (z := 4) X dL_law_456 rfl rfl ?_
  refine g_scrld (n := 458) (z := v4) X hb (by omega) (by omega) (by omega) dL_law_457 rfl e4 ?_
  refine g_aload_n (n := 459) X 3 dL_law_458 rfl rfl rfl ?_
  refine g_iload_n (n := 460) X 0 dL_law_459 rfl rfl rfl ?_
  refine g_iconst (n := 461) X dL_law_460 rfl ?_
  refine g_iadd (n := 462) (z := 5) X dL_law_461 rfl rfl ?_
  refine g_scrld (n := 463) (z := v5) X hb (by omega) (by omega) (by omega) dL_law_462 rfl e5 ?_
  refine g_if_eq (n := 466) (tgt := 470) X dL_law_463 (by decide) (by omega) rfl (fun c1 => ?_) (fun c1 => ?_)
  · refine g_iconst (n := 471) X dL_law_470 rfl ?_
    refine g_aload_n (n := 472) X 3 dL_law_471 rfl rfl rfl ?_
    refine g_iload_n (n := 473) X 0 dL_law_472 rfl rfl rfl ?_
    refine g_bipush (n := 475) X dL_law_473 (by decide +kernel) rfl ?_
    refine g_iadd (n := 476) (z := 6) X dL_law_475 rfl rfl ?_
    refine g_scrld (n := 477) (z := v6) X hb (by omega) (by omega) (by omega) dL_law_476 rfl e6 ?_
    refine g_if_eq (n := 480) (tgt := 484) X dL_law_477 (by decide) (by omega) rfl (fun c2 => ?_) (fun c2 => ?_)
    · refine g_iconst (n := 485) X dL_law_484 rfl ?_
      refine g_callVi (n := 488) (As := [gJ v1, gJ v2, gJ v3, gJ v4, gJ 0, gJ 0]) (rest := []) (cs1 := 206) (ss1 := 87467) X (c_X11_hire v1 v2 v3 v4 0 0 (by omega) (by omega) (by omega) (by omega) (by omega) (by omega) (by omega) f_0_0 f_1_10) okX11_hire kw_3_72 ⟨kw_3_73, kw_3_74⟩ ⟨rfl, rfl⟩ ⟨Nat.le_of_ble_eq_true rfl, Nat.le_of_ble_eq_true rfl⟩ rfl (by omega) (by omega) lay_0 rfl rfl (Nat.le_of_ble_eq_true rfl) ⟨Nat.le_of_ble_eq_true rfl, Nat.le_of_ble_eq_true rfl⟩ rfl rfl dL_law_485 rfl (fun z3 M4 P5 => ?_)
      obtain ⟨P5, F6⟩ := P5
      refine g_aload_n (n := 489) X 1 dL_law_488 rfl rfl rfl ?_
      refine g_aload_n (n := 490) X 3 dL_law_489 rfl rfl rfl ?_
      refine g_iload_n (n := 491) X 0 dL_law_490 rfl rfl rfl ?_
      refine g_iconst (n := 492) X dL_law_491 rfl ?_
      refine g_iadd (n := 493) (z := 1) X dL_law_492 rfl rfl ?_
      refine g_scrld (n := 494) (z := v1) X hb (by omega) (by omega) (by omega) dL_law_493 rfl e1 ?_
      refine g_aload_n (n := 495) X 3 dL_law_494 rfl rfl rfl ?_
      refine g_iload_n (n := 496) X 0 dL_law_495 rfl rfl rfl ?_
      refine g_iconst (n := 497) X dL_law_496 rfl ?_
      refine g_iadd (n := 498) (z := 2) X dL_law_497 rfl rfl ?_
      refine g_scrld (n := 499) (z := v2) X hb (by omega) (by omega) (by omega) dL_law_498 rfl e2 ?_
      refine g_aload_n (n := 500) X 3 dL_law_499 rfl rfl rfl ?_
      refine g_iload_n (n := 501) X 0 dL_law_500 rfl rfl rfl ?_
      refine g_iconst (n := 502) X dL_law_501 rfl ?_
      refine g_iadd (n := 503) (z := 3) X dL_law_502 rfl rfl ?_
      refine g_scrld (n := 504) (z := v3) X hb (by omega) (by omega) (by omega) dL_law_503 rfl e3 ?_
      refine g_aload_n (n := 505) X 3 dL_law_504 rfl rfl rfl ?_
      refine g_iload_n (n := 506) X 0 dL_law_505 rfl rfl rfl ?_
      refine g_iconst (n := 507) X dL_law_506 rfl ?_
      refine g_iadd (n := 508) (z := 4) X dL_law_507 rfl rfl ?_
      refine g_scrld (n := 509) (z := v4) X hb (by omega) (by omega) (by omega) dL_law_508 rfl e4 ?_
      refine g_aload_n (n := 510) X 3 dL_law_509 rfl rfl rfl ?_
      refine g_iload_n (n := 511) X 0 dL_law_510 rfl rfl rfl ?_
      refine g_iconst (n := 512) X dL_law_511 rfl ?_
      refine g_iadd (n := 513) (z := 5) X dL_law_512 rfl rfl ?_
      refine g_scrld (n := 514) (z := v5) X hb (by omega) (by omega) (by omega) dL_law_513 rfl e5 ?_
      refine g_if_eq (n := 517) (tgt := 521) X dL_law_514 (by decide) (by omega) rfl (fun c7 => ?_) (fun c7 => ?_)
      · refine g_iconst (n := 522) X dL_law_521 rfl ?_
        refine g_aload_n (n := 523) X 3 dL_law_522 rfl rfl rfl ?_
        refine g_iload_n (n := 524) X 0 dL_law_523 rfl rfl rfl ?_
        refine g_bipush (n := 526) X dL_law_524 (by decide +kernel) rfl ?_
        refine g_iadd (n := 527) (z := 6) X dL_law_526 rfl rfl ?_
        refine g_scrld (n := 528) (z := v6) X hb (by omega) (by omega) (by omega) dL_law_527 rfl e6 ?_
        refine g_if_eq (n := 531) (tgt := 535) X dL_law_528 (by decide) (by omega) rfl (fun c8 => ?_) (fun c8 => ?_)
        · refine g_iconst (n := 536) X dL_law_535 rfl ?_
          refine g_callVi (n := 539) (As := [gJ v1, gJ v2, gJ v3, gJ v4, gJ 0, gJ 0]) (rest := [gJ z3]) (cs1 := 206) (ss1 := 87467) X (c_X12_hire v1 v2 v3 v4 0 0 (by omega) (by omega) (by omega) (by omega) (by omega) (by omega) (by omega) ((congrFun (F6 190) _).trans f_190_1) ((congrFun (F6 191) _).trans ((hS 1 (by omega) (by omega)).trans (by decide)))) okX12_hire kw_6_133 ⟨kw_6_134, kw_6_135⟩ ⟨rfl, rfl⟩ ⟨Nat.le_of_ble_eq_true rfl, Nat.le_of_ble_eq_true rfl⟩ rfl (by omega) (by omega) lay_190 rfl rfl (Nat.le_of_ble_eq_true rfl) ⟨Nat.le_of_ble_eq_true rfl, Nat.le_of_ble_eq_true rfl⟩ rfl rfl dL_law_536 rfl (fun z9 M10 P11 => ?_)
          obtain ⟨P11, F12⟩ := P11
          refine g_icmp_eq (n := 542) (tgt := 1992) X dL_law_539 (by decide) (by omega) (by omega) rfl (fun c13 => ?_) (fun c13 => by exfalso; omega)
          exact law_tail X hr hb (by omega) (by omega)
        · refine g_iconst (n := 532) X dL_law_531 rfl ?_
          refine g_goto (tgt := 536) X dL_law_532 (by decide) ?_
          refine g_callVi (n := 539) (As := [gJ v1, gJ v2, gJ v3, gJ v4, gJ 0, gJ 1]) (rest := [gJ z3]) (cs1 := 206) (ss1 := 87467) X (c_X12_hire v1 v2 v3 v4 0 1 (by omega) (by omega) (by omega) (by omega) (by omega) (by omega) (by omega) ((congrFun (F6 190) _).trans f_190_1) ((congrFun (F6 191) _).trans ((hS 1 (by omega) (by omega)).trans (by decide)))) okX12_hire kw_6_133 ⟨kw_6_134, kw_6_135⟩ ⟨rfl, rfl⟩ ⟨Nat.le_of_ble_eq_true rfl, Nat.le_of_ble_eq_true rfl⟩ rfl (by omega) (by omega) lay_190 rfl rfl (Nat.le_of_ble_eq_true rfl) ⟨Nat.le_of_ble_eq_true rfl, Nat.le_of_ble_eq_true rfl⟩ rfl rfl dL_law_536 rfl (fun z14 M15 P16 => ?_)
          obtain ⟨P16, F17⟩ := P16
          refine g_icmp_eq (n := 542) (tgt := 1992) X dL_law_539 (by decide) (by omega) (by omega) rfl (fun c18 => ?_) (fun c18 => by exfalso; omega)
          exact law_tail X hr hb (by omega) (by omega)
      · refine g_iconst (n := 518) X dL_law_517 rfl ?_
        refine g_goto (tgt := 522) X dL_law_518 (by decide) ?_
        refine g_aload_n (n := 523) X 3 dL_law_522 rfl rfl rfl ?_
        refine g_iload_n (n := 524) X 0 dL_law_523 rfl rfl rfl ?_
        refine g_bipush (n := 526) X dL_law_524 (by decide +kernel) rfl ?_
        refine g_iadd (n := 527) (z := 6) X dL_law_526 rfl rfl ?_
        refine g_scrld (n := 528) (z := v6) X hb (by omega) (by omega) (by omega) dL_law_527 rfl e6 ?_
        refine g_if_eq (n := 531) (tgt := 535) X dL_law_528 (by decide) (by omega) rfl (fun c19 => ?_) (fun c19 => ?_)
        · refine g_iconst (n := 536) X dL_law_535 rfl ?_
          refine g_callVi (n := 539) (As := [gJ v1, gJ v2, gJ v3, gJ v4, gJ 1, gJ 0]) (rest := [gJ z3]) (cs1 := 206) (ss1 := 87467) X (c_X12_hire v1 v2 v3 v4 1 0 (by omega) (by omega) (by omega) (by omega) (by omega) (by omega) (by omega) ((congrFun (F6 190) _).trans f_190_1) ((congrFun (F6 191) _).trans ((hS 1 (by omega) (by omega)).trans (by decide)))) okX12_hire kw_6_133 ⟨kw_6_134, kw_6_135⟩ ⟨rfl, rfl⟩ ⟨Nat.le_of_ble_eq_true rfl, Nat.le_of_ble_eq_true rfl⟩ rfl (by omega) (by omega) lay_190 rfl rfl (Nat.le_of_ble_eq_true rfl) ⟨Nat.le_of_ble_eq_true rfl, Nat.le_of_ble_eq_true rfl⟩ rfl rfl dL_law_536 rfl (fun z20 M21 P22 => ?_)
          obtain ⟨P22, F23⟩ := P22
          refine g_icmp_eq (n := 542) (tgt := 1992) X dL_law_539 (by decide) (by omega) (by omega) rfl (fun c24 => ?_) (fun c24 => by exfalso; omega)
          exact law_tail X hr hb (by omega) (by omega)
        · refine g_iconst (n := 532) X dL_law_531 rfl ?_
          refine g_goto (tgt := 536) X dL_law_532 (by decide) ?_
          refine g_callVi (n := 539) (As := [gJ v1, gJ v2, gJ v3, gJ v4, gJ 1, gJ 1]) (rest := [gJ z3]) (cs1 := 206) (ss1 := 87467) X (c_X12_hire v1 v2 v3 v4 1 1 (by omega) (by omega) (by omega) (by omega) (by omega) (by omega) (by omega) ((congrFun (F6 190) _).trans f_190_1) ((congrFun (F6 191) _).trans ((hS 1 (by omega) (by omega)).trans (by decide)))) okX12_hire kw_6_133 ⟨kw_6_134, kw_6_135⟩ ⟨rfl, rfl⟩ ⟨Nat.le_of_ble_eq_true rfl, Nat.le_of_ble_eq_true rfl⟩ rfl (by omega) (by omega) lay_190 rfl rfl (Nat.le_of_ble_eq_true rfl) ⟨Nat.le_of_ble_eq_true rfl, Nat.le_of_ble_eq_true rfl⟩ rfl rfl dL_law_536 rfl (fun z25 M26 P27 => ?_)
          obtain ⟨P27, F28⟩ := P27
          refine g_icmp_eq (n := 542) (tgt := 1992) X dL_law_539 (by decide) (by omega) (by omega) rfl (fun c29 => ?_) (fun c29 => by exfalso; omega)
          exact law_tail X hr hb (by omega) (by omega)
    · refine g_iconst (n := 481) X dL_law_480 rfl ?_
      refine g_goto (tgt := 485) X dL_law_481 (by decide) ?_
      refine g_callVi (n := 488) (As := [gJ v1, gJ v2, gJ v3, gJ v4, gJ 0, gJ 1]) (rest := []) (cs1 := 206) (ss1 := 87467) X (c_X11_hire v1 v2 v3 v4 0 1 (by omega) (by omega) (by omega) (by omega) (by omega) (by omega) (by omega) f_0_0 f_1_10) okX11_hire kw_3_72 ⟨kw_3_73, kw_3_74⟩ ⟨rfl, rfl⟩ ⟨Nat.le_of_ble_eq_true rfl, Nat.le_of_ble_eq_true rfl⟩ rfl (by omega) (by omega) lay_0 rfl rfl (Nat.le_of_ble_eq_true rfl) ⟨Nat.le_of_ble_eq_true rfl, Nat.le_of_ble_eq_true rfl⟩ rfl rfl dL_law_485 rfl (fun z30 M31 P32 => ?_)
      obtain ⟨P32, F33⟩ := P32
      refine g_aload_n (n := 489) X 1 dL_law_488 rfl rfl rfl ?_
      refine g_aload_n (n := 490) X 3 dL_law_489 rfl rfl rfl ?_
      refine g_iload_n (n := 491) X 0 dL_law_490 rfl rfl rfl ?_
      refine g_iconst (n := 492) X dL_law_491 rfl ?_
      refine g_iadd (n := 493) (z := 1) X dL_law_492 rfl rfl ?_
      refine g_scrld (n := 494) (z := v1) X hb (by omega) (by omega) (by omega) dL_law_493 rfl e1 ?_
      refine g_aload_n (n := 495) X 3 dL_law_494 rfl rfl rfl ?_
      refine g_iload_n (n := 496) X 0 dL_law_495 rfl rfl rfl ?_
      refine g_iconst (n := 497) X dL_law_496 rfl ?_
      refine g_iadd (n := 498) (z := 2) X dL_law_497 rfl rfl ?_
      refine g_scrld (n := 499) (z := v2) X hb (by omega) (by omega) (by omega) dL_law_498 rfl e2 ?_
      refine g_aload_n (n := 500) X 3 dL_law_499 rfl rfl rfl ?_
      refine g_iload_n (n := 501) X 0 dL_law_500 rfl rfl rfl ?_
      refine g_iconst (n := 502) X dL_law_501 rfl ?_
      refine g_iadd (n := 503) (z := 3) X dL_law_502 rfl rfl ?_
      refine g_scrld (n := 504) (z := v3) X hb (by omega) (by omega) (by omega) dL_law_503 rfl e3 ?_
      refine g_aload_n (n := 505) X 3 dL_law_504 rfl rfl rfl ?_
      refine g_iload_n (n := 506) X 0 dL_law_505 rfl rfl rfl ?_
      refine g_iconst (n := 507) X dL_law_506 rfl ?_
      refine g_iadd (n := 508) (z := 4) X dL_law_507 rfl rfl ?_
      refine g_scrld (n := 509) (z := v4) X hb (by omega) (by omega) (by omega) dL_law_508 rfl e4 ?_
      refine g_aload_n (n := 510) X 3 dL_law_509 rfl rfl rfl ?_
      refine g_iload_n (n := 511) X 0 dL_law_510 rfl rfl rfl ?_
      refine g_iconst (n := 512) X dL_law_511 rfl ?_
      refine g_iadd (n := 513) (z := 5) X dL_law_512 rfl rfl ?_
      refine g_scrld (n := 514) (z := v5) X hb (by omega) (by omega) (by omega) dL_law_513 rfl e5 ?_
      refine g_if_eq (n := 517) (tgt := 521) X dL_law_514 (by decide) (by omega) rfl (fun c34 => ?_) (fun c34 => ?_)
      · refine g_iconst (n := 522) X dL_law_521 rfl ?_
        refine g_aload_n (n := 523) X 3 dL_law_522 rfl rfl rfl ?_
        refine g_iload_n (n := 524) X 0 dL_law_523 rfl rfl rfl ?_
        refine g_bipush (n := 526) X dL_law_524 (by decide +kernel) rfl ?_
        refine g_iadd (n := 527) (z := 6) X dL_law_526 rfl rfl ?_
        refine g_scrld (n := 528) (z := v6) X hb (by omega) (by omega) (by omega) dL_law_527 rfl e6 ?_
        refine g_if_eq (n := 531) (tgt := 535) X dL_law_528 (by decide) (by omega) rfl (fun c35 => ?_) (fun c35 => ?_)
        · refine g_iconst (n := 536) X dL_law_535 rfl ?_
          refine g_callVi (n := 539) (As := [gJ v1, gJ v2, gJ v3, gJ v4, gJ 0, gJ 0]) (rest := [gJ z30]) (cs1 := 206) (ss1 := 87467) X (c_X12_hire v1 v2 v3 v4 0 0 (by omega) (by omega) (by omega) (by omega) (by omega) (by omega) (by omega) ((congrFun (F33 190) _).trans f_190_1) ((congrFun (F33 191) _).trans ((hS 1 (by omega) (by omega)).trans (by decide)))) okX12_hire kw_6_133 ⟨kw_6_134, kw_6_135⟩ ⟨rfl, rfl⟩ ⟨Nat.le_of_ble_eq_true rfl, Nat.le_of_ble_eq_true rfl⟩ rfl (by omega) (by omega) lay_190 rfl rfl (Nat.le_of_ble_eq_true rfl) ⟨Nat.le_of_ble_eq_true rfl, Nat.le_of_ble_eq_true rfl⟩ rfl rfl dL_law_536 rfl (fun z36 M37 P38 => ?_)
          obtain ⟨P38, F39⟩ := P38
          refine g_icmp_eq (n := 542) (tgt := 1992) X dL_law_539 (by decide) (by omega) (by omega) rfl (fun c40 => ?_) (fun c40 => by exfalso; omega)
          exact law_tail X hr hb (by omega) (by omega)
        · refine g_iconst (n := 532) X dL_law_531 rfl ?_
          refine g_goto (tgt := 536) X dL_law_532 (by decide) ?_
          refine g_callVi (n := 539) (As := [gJ v1, gJ v2, gJ v3, gJ v4, gJ 0, gJ 1]) (rest := [gJ z30]) (cs1 := 206) (ss1 := 87467) X (c_X12_hire v1 v2 v3 v4 0 1 (by omega) (by omega) (by omega) (by omega) (by omega) (by omega) (by omega) ((congrFun (F33 190) _).trans f_190_1) ((congrFun (F33 191) _).trans ((hS 1 (by omega) (by omega)).trans (by decide)))) okX12_hire kw_6_133 ⟨kw_6_134, kw_6_135⟩ ⟨rfl, rfl⟩ ⟨Nat.le_of_ble_eq_true rfl, Nat.le_of_ble_eq_true rfl⟩ rfl (by omega) (by omega) lay_190 rfl rfl (Nat.le_of_ble_eq_true rfl) ⟨Nat.le_of_ble_eq_true rfl, Nat.le_of_ble_eq_true rfl⟩ rfl rfl dL_law_536 rfl (fun z41 M42 P43 => ?_)
          obtain ⟨P43, F44⟩ := P43
          refine g_icmp_eq (n := 542) (tgt := 1992) X dL_law_539 (by decide) (by omega) (by omega) rfl (fun c45 => ?_) (fun c45 => by exfalso; omega)
          exact law_tail X hr hb (by omega) (by omega)
      · refine g_iconst (n := 518) X dL_law_517 rfl ?_
        refine g_goto (tgt := 522) X dL_law_518 (by decide) ?_
        refine g_aload_n (n := 523) X 3 dL_law_522 rfl rfl rfl ?_
        refine g_iload_n (n := 524) X 0 dL_law_523 rfl rfl rfl ?_
        refine g_bipush (n := 526) X dL_law_524 (by decide +kernel) rfl ?_
        refine g_iadd (n := 527) (z := 6) X dL_law_526 rfl rfl ?_
        refine g_scrld (n := 528) (z := v6) X hb (by omega) (by omega) (by omega) dL_law_527 rfl e6 ?_
        refine g_if_eq (n := 531) (tgt := 535) X dL_law_528 (by decide) (by omega) rfl (fun c46 => ?_) (fun c46 => ?_)
        · refine g_iconst (n := 536) X dL_law_535 rfl ?_
          refine g_callVi (n := 539) (As := [gJ v1, gJ v2, gJ v3, gJ v4, gJ 1, gJ 0]) (rest := [gJ z30]) (cs1 := 206) (ss1 := 87467) X (c_X12_hire v1 v2 v3 v4 1 0 (by omega) (by omega) (by omega) (by omega) (by omega) (by omega) (by omega) ((congrFun (F33 190) _).trans f_190_1) ((congrFun (F33 191) _).trans ((hS 1 (by omega) (by omega)).trans (by decide)))) okX12_hire kw_6_133 ⟨kw_6_134, kw_6_135⟩ ⟨rfl, rfl⟩ ⟨Nat.le_of_ble_eq_true rfl, Nat.le_of_ble_eq_true rfl⟩ rfl (by omega) (by omega) lay_190 rfl rfl (Nat.le_of_ble_eq_true rfl) ⟨Nat.le_of_ble_eq_true rfl, Nat.le_of_ble_eq_true rfl⟩ rfl rfl dL_law_536 rfl (fun z47 M48 P49 => ?_)
          obtain ⟨P49, F50⟩ := P49
          refine g_icmp_eq (n := 542) (tgt := 1992) X dL_law_539 (by decide) (by omega) (by omega) rfl (fun c51 => ?_) (fun c51 => by exfalso; omega)
          exact law_tail X hr hb (by omega) (by omega)
        · refine g_iconst (n := 532) X dL_law_531 rfl ?_
          refine g_goto (tgt := 536) X dL_law_532 (by decide) ?_
          refine g_callVi (n := 539) (As := [gJ v1, gJ v2, gJ v3, gJ v4, gJ 1, gJ 1]) (rest := [gJ z30]) (cs1 := 206) (ss1 := 87467) X (c_X12_hire v1 v2 v3 v4 1 1 (by omega) (by omega) (by omega) (by omega) (by omega) (by omega) (by omega) ((congrFun (F33 190) _).trans f_190_1) ((congrFun (F33 191) _).trans ((hS 1 (by omega) (by omega)).trans (by decide)))) okX12_hire kw_6_133 ⟨kw_6_134, kw_6_135⟩ ⟨rfl, rfl⟩ ⟨Nat.le_of_ble_eq_true rfl, Nat.le_of_ble_eq_true rfl⟩ rfl (by omega) (by omega) lay_190 rfl rfl (Nat.le_of_ble_eq_true rfl) ⟨Nat.le_of_ble_eq_true rfl, Nat.le_of_ble_eq_true rfl⟩ rfl rfl dL_law_536 rfl (fun z52 M53 P54 => ?_)
          obtain ⟨P54, F55⟩ := P54
          refine g_icmp_eq (n := 542) (tgt := 1992) X dL_law_539 (by decide) (by omega) (by omega) rfl (fun c56 => ?_) (fun c56 => by exfalso; omega)
          exact law_tail X hr hb (by omega) (by omega)
  · refine g_iconst (n := 467) X dL_law_466 rfl ?_
    refine g_goto (tgt := 471) X dL_law_467 (by decide) ?_
    refine g_aload_n (n := 472) X 3 dL_law_471 rfl rfl rfl ?_
    refine g_iload_n (n := 473) X 0 dL_law_472 rfl rfl rfl ?_
    refine g_bipush (n := 475) X dL_law_473 (by decide +kernel) rfl ?_
    refine g_iadd (n := 476) (z := 6) X dL_law_475 rfl rfl ?_
    refine g_scrld (n := 477) (z := v6) X hb (by omega) (by omega) (by omega) dL_law_476 rfl e6 ?_
    refine g_if_eq (n := 480) (tgt := 484) X dL_law_477 (by decide) (by omega) rfl (fun c57 => ?_) (fun c57 => ?_)
    · refine g_iconst (n := 485) X dL_law_484 rfl ?_
      refine g_callVi (n := 488) (As := [gJ v1, gJ v2, gJ v3, gJ v4, gJ 1, gJ 0]) (rest := []) (cs1 := 206) (ss1 := 87467) X (c_X11_hire v1 v2 v3 v4 1 0 (by omega) (by omega) (by omega) (by omega) (by omega) (by omega) (by omega) f_0_0 f_1_10) okX11_hire kw_3_72 ⟨kw_3_73, kw_3_74⟩ ⟨rfl, rfl⟩ ⟨Nat.le_of_ble_eq_true rfl, Nat.le_of_ble_eq_true rfl⟩ rfl (by omega) (by omega) lay_0 rfl rfl (Nat.le_of_ble_eq_true rfl) ⟨Nat.le_of_ble_eq_true rfl, Nat.le_of_ble_eq_true rfl⟩ rfl rfl dL_law_485 rfl (fun z58 M59 P60 => ?_)
      obtain ⟨P60, F61⟩ := P60
      refine g_aload_n (n := 489) X 1 dL_law_488 rfl rfl rfl ?_
      refine g_aload_n (n := 490) X 3 dL_law_489 rfl rfl rfl ?_
      refine g_iload_n (n := 491) X 0 dL_law_490 rfl rfl rfl ?_
      refine g_iconst (n := 492) X dL_law_491 rfl ?_
      refine g_iadd (n := 493) (z := 1) X dL_law_492 rfl rfl ?_
      refine g_scrld (n := 494) (z := v1) X hb (by omega) (by omega) (by omega) dL_law_493 rfl e1 ?_
      refine g_aload_n (n := 495) X 3 dL_law_494 rfl rfl rfl ?_
      refine g_iload_n (n := 496) X 0 dL_law_495 rfl rfl rfl ?_
      refine g_iconst (n := 497) X dL_law_496 rfl ?_
      refine g_iadd (n := 498) (z := 2) X dL_law_497 rfl rfl ?_
      refine g_scrld (n := 499) (z := v2) X hb (by omega) (by omega) (by omega) dL_law_498 rfl e2 ?_
      refine g_aload_n (n := 500) X 3 dL_law_499 rfl rfl rfl ?_
      refine g_iload_n (n := 501) X 0 dL_law_500 rfl rfl rfl ?_
      refine g_iconst (n := 502) X dL_law_501 rfl ?_
      refine g_iadd (n := 503) (z := 3) X dL_law_502 rfl rfl ?_
      refine g_scrld (n := 504) (z := v3) X hb (by omega) (by omega) (by omega) dL_law_503 rfl e3 ?_
      refine g_aload_n (n := 505) X 3 dL_law_504 rfl rfl rfl ?_
      refine g_iload_n (n := 506) X 0 dL_law_505 rfl rfl rfl ?_
      refine g_iconst (n := 507) X dL_law_506 rfl ?_
      refine g_iadd (n := 508) (z := 4) X dL_law_507 rfl rfl ?_
      refine g_scrld (n := 509) (z := v4) X hb (by omega) (by omega) (by omega) dL_law_508 rfl e4 ?_
      refine g_aload_n (n := 510) X 3 dL_law_509 rfl rfl rfl ?_
      refine g_iload_n (n := 511) X 0 dL_law_510 rfl rfl rfl ?_
      refine g_iconst (n := 512) X dL_law_511 rfl ?_
      refine g_iadd (n := 513) (z := 5) X dL_law_512 rfl rfl ?_
      refine g_scrld (n := 514) (z := v5) X hb (by omega) (by omega) (by omega) dL_law_513 rfl e5 ?_
      refine g_if_eq (n := 517) (tgt := 521) X dL_law_514 (by decide) (by omega) rfl (fun c62 => ?_) (fun c62 => ?_)
      · refine g_iconst (n := 522) X dL_law_521 rfl ?_
        refine g_aload_n (n := 523) X 3 dL_law_522 rfl rfl rfl ?_
        refine g_iload_n (n := 524) X 0 dL_law_523 rfl rfl rfl ?_
        refine g_bipush (n := 526) X dL_law_524 (by decide +kernel) rfl ?_
        refine g_iadd (n := 527) (z := 6) X dL_law_526 rfl rfl ?_
        refine g_scrld (n := 528) (z := v6) X hb (by omega) (by omega) (by omega) dL_law_527 rfl e6 ?_
        refine g_if_eq (n := 531) (tgt := 535) X dL_law_528 (by decide) (by omega) rfl (fun c63 => ?_) (fun c63 => ?_)
        · refine g_iconst (n := 536) X dL_law_535 rfl ?_
          refine g_callVi (n := 539) (As := [gJ v1, gJ v2, gJ v3, gJ v4, gJ 0, gJ 0]) (rest := [gJ z58]) (cs1 := 206) (ss1 := 87467) X (c_X12_hire v1 v2 v3 v4 0 0 (by omega) (by omega) (by omega) (by omega) (by omega) (by omega) (by omega) ((congrFun (F61 190) _).trans f_190_1) ((congrFun (F61 191) _).trans ((hS 1 (by omega) (by omega)).trans (by decide)))) okX12_hire kw_6_133 ⟨kw_6_134, kw_6_135⟩ ⟨rfl, rfl⟩ ⟨Nat.le_of_ble_eq_true rfl, Nat.le_of_ble_eq_true rfl⟩ rfl (by omega) (by omega) lay_190 rfl rfl (Nat.le_of_ble_eq_true rfl) ⟨Nat.le_of_ble_eq_true rfl, Nat.le_of_ble_eq_true rfl⟩ rfl rfl dL_law_536 rfl (fun z64 M65 P66 => ?_)
          obtain ⟨P66, F67⟩ := P66
          refine g_icmp_eq (n := 542) (tgt := 1992) X dL_law_539 (by decide) (by omega) (by omega) rfl (fun c68 => ?_) (fun c68 => by exfalso; omega)
          exact law_tail X hr hb (by omega) (by omega)
        · refine g_iconst (n := 532) X dL_law_531 rfl ?_
          refine g_goto (tgt := 536) X dL_law_532 (by decide) ?_
          refine g_callVi (n := 539) (As := [gJ v1, gJ v2, gJ v3, gJ v4, gJ 0, gJ 1]) (rest := [gJ z58]) (cs1 := 206) (ss1 := 87467) X (c_X12_hire v1 v2 v3 v4 0 1 (by omega) (by omega) (by omega) (by omega) (by omega) (by omega) (by omega) ((congrFun (F61 190) _).trans f_190_1) ((congrFun (F61 191) _).trans ((hS 1 (by omega) (by omega)).trans (by decide)))) okX12_hire kw_6_133 ⟨kw_6_134, kw_6_135⟩ ⟨rfl, rfl⟩ ⟨Nat.le_of_ble_eq_true rfl, Nat.le_of_ble_eq_true rfl⟩ rfl (by omega) (by omega) lay_190 rfl rfl (Nat.le_of_ble_eq_true rfl) ⟨Nat.le_of_ble_eq_true rfl, Nat.le_of_ble_eq_true rfl⟩ rfl rfl dL_law_536 rfl (fun z69 M70 P71 => ?_)
          obtain ⟨P71, F72⟩ := P71
          refine g_icmp_eq (n := 542) (tgt := 1992) X dL_law_539 (by decide) (by omega) (by omega) rfl (fun c73 => ?_) (fun c73 => by exfalso; omega)
          exact law_tail X hr hb (by omega) (by omega)
      · refine g_iconst (n := 518) X dL_law_517 rfl ?_
        refine g_goto (tgt := 522) X dL_law_518 (by decide) ?_
        refine g_aload_n (n := 523) X 3 dL_law_522 rfl rfl rfl ?_
        refine g_iload_n (n := 524) X 0 dL_law_523 rfl rfl rfl ?_
        refine g_bipush (n := 526) X dL_law_524 (by decide +kernel) rfl ?_
        refine g_iadd (n := 527) (z := 6) X dL_law_526 rfl rfl ?_
        refine g_scrld (n := 528) (z := v6) X hb (by omega) (by omega) (by omega) dL_law_527 rfl e6 ?_
        refine g_if_eq (n := 531) (tgt := 535) X dL_law_528 (by decide) (by omega) rfl (fun c74 => ?_) (fun c74 => ?_)
        · refine g_iconst (n := 536) X dL_law_535 rfl ?_
          refine g_callVi (n := 539) (As := [gJ v1, gJ v2, gJ v3, gJ v4, gJ 1, gJ 0]) (rest := [gJ z58]) (cs1 := 206) (ss1 := 87467) X (c_X12_hire v1 v2 v3 v4 1 0 (by omega) (by omega) (by omega) (by omega) (by omega) (by omega) (by omega) ((congrFun (F61 190) _).trans f_190_1) ((congrFun (F61 191) _).trans ((hS 1 (by omega) (by omega)).trans (by decide)))) okX12_hire kw_6_133 ⟨kw_6_134, kw_6_135⟩ ⟨rfl, rfl⟩ ⟨Nat.le_of_ble_eq_true rfl, Nat.le_of_ble_eq_true rfl⟩ rfl (by omega) (by omega) lay_190 rfl rfl (Nat.le_of_ble_eq_true rfl) ⟨Nat.le_of_ble_eq_true rfl, Nat.le_of_ble_eq_true rfl⟩ rfl rfl dL_law_536 rfl (fun z75 M76 P77 => ?_)
          obtain ⟨P77, F78⟩ := P77
          refine g_icmp_eq (n := 542) (tgt := 1992) X dL_law_539 (by decide) (by omega) (by omega) rfl (fun c79 => ?_) (fun c79 => by exfalso; omega)
          exact law_tail X hr hb (by omega) (by omega)
        · refine g_iconst (n := 532) X dL_law_531 rfl ?_
          refine g_goto (tgt := 536) X dL_law_532 (by decide) ?_
          refine g_callVi (n := 539) (As := [gJ v1, gJ v2, gJ v3, gJ v4, gJ 1, gJ 1]) (rest := [gJ z58]) (cs1 := 206) (ss1 := 87467) X (c_X12_hire v1 v2 v3 v4 1 1 (by omega) (by omega) (by omega) (by omega) (by omega) (by omega) (by omega) ((congrFun (F61 190) _).trans f_190_1) ((congrFun (F61 191) _).trans ((hS 1 (by omega) (by omega)).trans (by decide)))) okX12_hire kw_6_133 ⟨kw_6_134, kw_6_135⟩ ⟨rfl, rfl⟩ ⟨Nat.le_of_ble_eq_true rfl, Nat.le_of_ble_eq_true rfl⟩ rfl (by omega) (by omega) lay_190 rfl rfl (Nat.le_of_ble_eq_true rfl) ⟨Nat.le_of_ble_eq_true rfl, Nat.le_of_ble_eq_true rfl⟩ rfl rfl dL_law_536 rfl (fun z80 M81 P82 => ?_)
          obtain ⟨P82, F83⟩ := P82
          refine g_icmp_eq (n := 542) (tgt := 1992) X dL_law_539 (by decide) (by omega) (by omega) rfl (fun c84 => ?_) (fun c84 => by exfalso; omega)
          exact law_tail X hr hb (by omega) (by omega)
    · refine g_iconst (n := 481) X dL_law_480 rfl ?_
      refine g_goto (tgt := 485) X dL_law_481 (by decide) ?_
      refine g_callVi (n := 488) (As := [gJ v1, gJ v2, gJ v3, gJ v4, gJ 1, gJ 1]) (rest := []) (cs1 := 206) (ss1 := 87467) X (c_X11_hire v1 v2 v3 v4 1 1 (by omega) (by omega) (by omega) (by omega) (by omega) (by omega) (by omega) f_0_0 f_1_10) okX11_hire kw_3_72 ⟨kw_3_73, kw_3_74⟩ ⟨rfl, rfl⟩ ⟨Nat.le_of_ble_eq_true rfl, Nat.le_of_ble_eq_true rfl⟩ rfl (by omega) (by omega) lay_0 rfl rfl (Nat.le_of_ble_eq_true rfl) ⟨Nat.le_of_ble_eq_true rfl, Nat.le_of_ble_eq_true rfl⟩ rfl rfl dL_law_485 rfl (fun z85 M86 P87 => ?_)
      obtain ⟨P87, F88⟩ := P87
      refine g_aload_n (n := 489) X 1 dL_law_488 rfl rfl rfl ?_
      refine g_aload_n (n := 490) X 3 dL_law_489 rfl rfl rfl ?_
      refine g_iload_n (n := 491) X 0 dL_law_490 rfl rfl rfl ?_
      refine g_iconst (n := 492) X dL_law_491 rfl ?_
      refine g_iadd (n := 493) (z := 1) X dL_law_492 rfl rfl ?_
      refine g_scrld (n := 494) (z := v1) X hb (by omega) (by omega) (by omega) dL_law_493 rfl e1 ?_
      refine g_aload_n (n := 495) X 3 dL_law_494 rfl rfl rfl ?_
      refine g_iload_n (n := 496) X 0 dL_law_495 rfl rfl rfl ?_
      refine g_iconst (n := 497) X dL_law_496 rfl ?_
      refine g_iadd (n := 498) (z := 2) X dL_law_497 rfl rfl ?_
      refine g_scrld (n := 499) (z := v2) X hb (by omega) (by omega) (by omega) dL_law_498 rfl e2 ?_
      refine g_aload_n (n := 500) X 3 dL_law_499 rfl rfl rfl ?_
      refine g_iload_n (n := 501) X 0 dL_law_500 rfl rfl rfl ?_
      refine g_iconst (n := 502) X dL_law_501 rfl ?_
      refine g_iadd (n := 503) (z := 3) X dL_law_502 rfl rfl ?_
      refine g_scrld (n := 504) (z := v3) X hb (by omega) (by omega) (by omega) dL_law_503 rfl e3 ?_
      refine g_aload_n (n := 505) X 3 dL_law_504 rfl rfl rfl ?_
      refine g_iload_n (n := 506) X 0 dL_law_505 rfl rfl rfl ?_
      refine g_iconst (n := 507) X dL_law_506 rfl ?_
      refine g_iadd (n := 508) (z := 4) X dL_law_507 rfl rfl ?_
      refine g_scrld (n := 509) (z := v4) X hb (by omega) (by omega) (by omega) dL_law_508 rfl e4 ?_
      refine g_aload_n (n := 510) X 3 dL_law_509 rfl rfl rfl ?_
      refine g_iload_n (n := 511) X 0 dL_law_510 rfl rfl rfl ?_
      refine g_iconst (n := 512) X dL_law_511 rfl ?_
      refine g_iadd (n := 513) (z := 5) X dL_law_512 rfl rfl ?_
      refine g_scrld (n := 514) (z := v5) X hb (by omega) (by omega) (by omega) dL_law_513 rfl e5 ?_
      refine g_if_eq (n := 517) (tgt := 521) X dL_law_514 (by decide) (by omega) rfl (fun c89 => ?_) (fun c89 => ?_)
      · refine g_iconst (n := 522) X dL_law_521 rfl ?_
        refine g_aload_n (n := 523) X 3 dL_law_522 rfl rfl rfl ?_
        refine g_iload_n (n := 524) X 0 dL_law_523 rfl rfl rfl ?_
        refine g_bipush (n := 526) X dL_law_524 (by decide +kernel) rfl ?_
        refine g_iadd (n := 527) (z := 6) X dL_law_526 rfl rfl ?_
        refine g_scrld (n := 528) (z := v6) X hb (by omega) (by omega) (by omega) dL_law_527 rfl e6 ?_
        refine g_if_eq (n := 531) (tgt := 535) X dL_law_528 (by decide) (by omega) rfl (fun c90 => ?_) (fun c90 => ?_)
        · refine g_iconst (n := 536) X dL_law_535 rfl ?_
          refine g_callVi (n := 539) (As := [gJ v1, gJ v2, gJ v3, gJ v4, gJ 0, gJ 0]) (rest := [gJ z85]) (cs1 := 206) (ss1 := 87467) X (c_X12_hire v1 v2 v3 v4 0 0 (by omega) (by omega) (by omega) (by omega) (by omega) (by omega) (by omega) ((congrFun (F88 190) _).trans f_190_1) ((congrFun (F88 191) _).trans ((hS 1 (by omega) (by omega)).trans (by decide)))) okX12_hire kw_6_133 ⟨kw_6_134, kw_6_135⟩ ⟨rfl, rfl⟩ ⟨Nat.le_of_ble_eq_true rfl, Nat.le_of_ble_eq_true rfl⟩ rfl (by omega) (by omega) lay_190 rfl rfl (Nat.le_of_ble_eq_true rfl) ⟨Nat.le_of_ble_eq_true rfl, Nat.le_of_ble_eq_true rfl⟩ rfl rfl dL_law_536 rfl (fun z91 M92 P93 => ?_)
          obtain ⟨P93, F94⟩ := P93
          refine g_icmp_eq (n := 542) (tgt := 1992) X dL_law_539 (by decide) (by omega) (by omega) rfl (fun c95 => ?_) (fun c95 => by exfalso; omega)
          exact law_tail X hr hb (by omega) (by omega)
        · refine g_iconst (n := 532) X dL_law_531 rfl ?_
          refine g_goto (tgt := 536) X dL_law_532 (by decide) ?_
          refine g_callVi (n := 539) (As := [gJ v1, gJ v2, gJ v3, gJ v4, gJ 0, gJ 1]) (rest := [gJ z85]) (cs1 := 206) (ss1 := 87467) X (c_X12_hire v1 v2 v3 v4 0 1 (by omega) (by omega) (by omega) (by omega) (by omega) (by omega) (by omega) ((congrFun (F88 190) _).trans f_190_1) ((congrFun (F88 191) _).trans ((hS 1 (by omega) (by omega)).trans (by decide)))) okX12_hire kw_6_133 ⟨kw_6_134, kw_6_135⟩ ⟨rfl, rfl⟩ ⟨Nat.le_of_ble_eq_true rfl, Nat.le_of_ble_eq_true rfl⟩ rfl (by omega) (by omega) lay_190 rfl rfl (Nat.le_of_ble_eq_true rfl) ⟨Nat.le_of_ble_eq_true rfl, Nat.le_of_ble_eq_true rfl⟩ rfl rfl dL_law_536 rfl (fun z96 M97 P98 => ?_)
          obtain ⟨P98, F99⟩ := P98
          refine g_icmp_eq (n := 542) (tgt := 1992) X dL_law_539 (by decide) (by omega) (by omega) rfl (fun c100 => ?_) (fun c100 => by exfalso; omega)
          exact law_tail X hr hb (by omega) (by omega)
      · refine g_iconst (n := 518) X dL_law_517 rfl ?_
        refine g_goto (tgt := 522) X dL_law_518 (by decide) ?_
        refine g_aload_n (n := 523) X 3 dL_law_522 rfl rfl rfl ?_
        refine g_iload_n (n := 524) X 0 dL_law_523 rfl rfl rfl ?_
        refine g_bipush (n := 526) X dL_law_524 (by decide +kernel) rfl ?_
        refine g_iadd (n := 527) (z := 6) X dL_law_526 rfl rfl ?_
        refine g_scrld (n := 528) (z := v6) X hb (by omega) (by omega) (by omega) dL_law_527 rfl e6 ?_
        refine g_if_eq (n := 531) (tgt := 535) X dL_law_528 (by decide) (by omega) rfl (fun c101 => ?_) (fun c101 => ?_)
        · refine g_iconst (n := 536) X dL_law_535 rfl ?_
          refine g_callVi (n := 539) (As := [gJ v1, gJ v2, gJ v3, gJ v4, gJ 1, gJ 0]) (rest := [gJ z85]) (cs1 := 206) (ss1 := 87467) X (c_X12_hire v1 v2 v3 v4 1 0 (by omega) (by omega) (by omega) (by omega) (by omega) (by omega) (by omega) ((congrFun (F88 190) _).trans f_190_1) ((congrFun (F88 191) _).trans ((hS 1 (by omega) (by omega)).trans (by decide)))) okX12_hire kw_6_133 ⟨kw_6_134, kw_6_135⟩ ⟨rfl, rfl⟩ ⟨Nat.le_of_ble_eq_true rfl, Nat.le_of_ble_eq_true rfl⟩ rfl (by omega) (by omega) lay_190 rfl rfl (Nat.le_of_ble_eq_true rfl) ⟨Nat.le_of_ble_eq_true rfl, Nat.le_of_ble_eq_true rfl⟩ rfl rfl dL_law_536 rfl (fun z102 M103 P104 => ?_)
          obtain ⟨P104, F105⟩ := P104
          refine g_icmp_eq (n := 542) (tgt := 1992) X dL_law_539 (by decide) (by omega) (by omega) rfl (fun c106 => ?_) (fun c106 => by exfalso; omega)
          exact law_tail X hr hb (by omega) (by omega)
        · refine g_iconst (n := 532) X dL_law_531 rfl ?_
          refine g_goto (tgt := 536) X dL_law_532 (by decide) ?_
          refine g_callVi (n := 539) (As := [gJ v1, gJ v2, gJ v3, gJ v4, gJ 1, gJ 1]) (rest := [gJ z85]) (cs1 := 206) (ss1 := 87467) X (c_X12_hire v1 v2 v3 v4 1 1 (by omega) (by omega) (by omega) (by omega) (by omega) (by omega) (by omega) ((congrFun (F88 190) _).trans f_190_1) ((congrFun (F88 191) _).trans ((hS 1 (by omega) (by omega)).trans (by decide)))) okX12_hire kw_6_133 ⟨kw_6_134, kw_6_135⟩ ⟨rfl, rfl⟩ ⟨Nat.le_of_ble_eq_true rfl, Nat.le_of_ble_eq_true rfl⟩ rfl (by omega) (by omega) lay_190 rfl rfl (Nat.le_of_ble_eq_true rfl) ⟨Nat.le_of_ble_eq_true rfl, Nat.le_of_ble_eq_true rfl⟩ rfl rfl dL_law_536 rfl (fun z107 M108 P109 => ?_)
          obtain ⟨P109, F110⟩ := P109
          refine g_icmp_eq (n := 542) (tgt := 1992) X dL_law_539 (by decide) (by omega) (by omega) rfl (fun c111 => ?_) (fun c111 => by exfalso; omega)
          exact law_tail X hr hb (by omega) (by omega)
theorem dL_law_544 : decode code 544 = .ok (.aload_n 1, 1) := by decide +kernel
theorem dL_law_545 : decode code 545 = .ok (.aload_n 0, 1) := by decide +kernel
theorem dL_law_546 : decode code 546 = .ok (.iload_n 3, 1) := by decide +kernel
theorem dL_law_547 : decode code 547 = .ok (.iconst 1, 1) := by decide +kernel
theorem dL_law_548 : decode code 548 = .ok (.iadd, 1) := by decide +kernel
theorem dL_law_549 : decode code 549 = .ok (.iaload, 1) := by decide +kernel
theorem dL_law_550 : decode code 550 = .ok (.aload_n 0, 1) := by decide +kernel
theorem dL_law_551 : decode code 551 = .ok (.iload_n 3, 1) := by decide +kernel
theorem dL_law_552 : decode code 552 = .ok (.iconst 2, 1) := by decide +kernel
theorem dL_law_553 : decode code 553 = .ok (.iadd, 1) := by decide +kernel
theorem dL_law_554 : decode code 554 = .ok (.iaload, 1) := by decide +kernel
theorem dL_law_555 : decode code 555 = .ok (.aload_n 0, 1) := by decide +kernel
theorem dL_law_556 : decode code 556 = .ok (.iload_n 3, 1) := by decide +kernel
theorem dL_law_557 : decode code 557 = .ok (.iconst 3, 1) := by decide +kernel
theorem dL_law_558 : decode code 558 = .ok (.iadd, 1) := by decide +kernel
theorem dL_law_559 : decode code 559 = .ok (.iaload, 1) := by decide +kernel
theorem dL_law_560 : decode code 560 = .ok (.aload_n 0, 1) := by decide +kernel
theorem dL_law_561 : decode code 561 = .ok (.iload_n 3, 1) := by decide +kernel
theorem dL_law_562 : decode code 562 = .ok (.iconst 4, 1) := by decide +kernel
theorem dL_law_563 : decode code 563 = .ok (.iadd, 1) := by decide +kernel
theorem dL_law_564 : decode code 564 = .ok (.iaload, 1) := by decide +kernel
theorem dL_law_565 : decode code 565 = .ok (.aload_n 0, 1) := by decide +kernel
theorem dL_law_566 : decode code 566 = .ok (.iload_n 3, 1) := by decide +kernel
theorem dL_law_567 : decode code 567 = .ok (.iconst 5, 1) := by decide +kernel
theorem dL_law_568 : decode code 568 = .ok (.iadd, 1) := by decide +kernel
theorem dL_law_569 : decode code 569 = .ok (.iaload, 1) := by decide +kernel
theorem dL_law_570 : decode code 570 = .ok (.ifCond .eq 7, 3) := by decide +kernel
theorem dL_law_577 : decode code 577 = .ok (.iconst 0, 1) := by decide +kernel
theorem dL_law_578 : decode code 578 = .ok (.invokevirtual 41, 3) := by decide +kernel
theorem kw_3_84 : (Jvm.Cond.methodLink "ParishUnionLaw" (41 : Nat) ({ cls := "ParishUnion", name := "rated", desc := "(IIIIZ)I" } : Jvm.MethodName)) ∈ gT := gT_of (tb_3 _ (List.mem_of_getElem? (i := 84) rfl)) rfl
theorem kw_3_87 : (Jvm.Cond.code ({ cls := "ParishUnion", name := "rated", desc := "(IIIIZ)I" } : Jvm.MethodName) prog_1_method_8_code (6 : Nat) (Option.some Jvm.ClassFile.FieldType.int)) ∈ gT := gT_of (tb_3 _ (List.mem_of_getElem? (i := 87) rfl)) rfl
theorem okX11_rated : gQok yX11_rated cX11_rated 6 (Option.some Jvm.ClassFile.FieldType.int) 5 := ⟨kw_3_87, kw_1_1, by decide +kernel, by decide +kernel, by decide +kernel⟩
theorem kw_3_85 : (Jvm.Cond.instanceMethod ({ cls := "ParishUnion", name := "rated", desc := "(IIIIZ)I" } : Jvm.MethodName)) ∈ gT := gT_of (tb_3 _ (List.mem_of_getElem? (i := 85) rfl)) rfl
theorem kw_3_86 : (Jvm.Cond.selects "ParishUnion" ({ cls := "ParishUnion", name := "rated", desc := "(IIIIZ)I" } : Jvm.MethodName) ({ cls := "ParishUnion", name := "rated", desc := "(IIIIZ)I" } : Jvm.MethodName)) ∈ gT := gT_of (tb_3 _ (List.mem_of_getElem? (i := 86) rfl)) rfl
theorem dL_law_581 : decode code 581 = .ok (.aload_n 2, 1) := by decide +kernel
theorem dL_law_582 : decode code 582 = .ok (.aload_n 0, 1) := by decide +kernel
theorem dL_law_583 : decode code 583 = .ok (.iload_n 3, 1) := by decide +kernel
theorem dL_law_584 : decode code 584 = .ok (.iconst 1, 1) := by decide +kernel
theorem dL_law_585 : decode code 585 = .ok (.iadd, 1) := by decide +kernel
theorem dL_law_586 : decode code 586 = .ok (.iaload, 1) := by decide +kernel
theorem dL_law_587 : decode code 587 = .ok (.aload_n 0, 1) := by decide +kernel
theorem dL_law_588 : decode code 588 = .ok (.iload_n 3, 1) := by decide +kernel
theorem dL_law_589 : decode code 589 = .ok (.iconst 2, 1) := by decide +kernel
theorem dL_law_590 : decode code 590 = .ok (.iadd, 1) := by decide +kernel
theorem dL_law_591 : decode code 591 = .ok (.iaload, 1) := by decide +kernel
theorem dL_law_592 : decode code 592 = .ok (.aload_n 0, 1) := by decide +kernel
theorem dL_law_593 : decode code 593 = .ok (.iload_n 3, 1) := by decide +kernel
theorem dL_law_594 : decode code 594 = .ok (.iconst 3, 1) := by decide +kernel
theorem dL_law_595 : decode code 595 = .ok (.iadd, 1) := by decide +kernel
theorem dL_law_596 : decode code 596 = .ok (.iaload, 1) := by decide +kernel
theorem dL_law_597 : decode code 597 = .ok (.aload_n 0, 1) := by decide +kernel
theorem dL_law_598 : decode code 598 = .ok (.iload_n 3, 1) := by decide +kernel
theorem dL_law_599 : decode code 599 = .ok (.iconst 4, 1) := by decide +kernel
theorem dL_law_600 : decode code 600 = .ok (.iadd, 1) := by decide +kernel
theorem dL_law_601 : decode code 601 = .ok (.iaload, 1) := by decide +kernel
theorem dL_law_602 : decode code 602 = .ok (.aload_n 0, 1) := by decide +kernel
theorem dL_law_603 : decode code 603 = .ok (.iload_n 3, 1) := by decide +kernel
theorem dL_law_604 : decode code 604 = .ok (.iconst 5, 1) := by decide +kernel
theorem dL_law_605 : decode code 605 = .ok (.iadd, 1) := by decide +kernel
theorem dL_law_606 : decode code 606 = .ok (.iaload, 1) := by decide +kernel
theorem dL_law_607 : decode code 607 = .ok (.ifCond .eq 7, 3) := by decide +kernel
theorem dL_law_614 : decode code 614 = .ok (.iconst 0, 1) := by decide +kernel
theorem dL_law_615 : decode code 615 = .ok (.invokevirtual 45, 3) := by decide +kernel
theorem kw_6_149 : (Jvm.Cond.methodLink "ParishUnionLaw" (45 : Nat) ({ cls := "ParishUnionModel", name := "rated", desc := "(IIIIZ)I" } : Jvm.MethodName)) ∈ gT := gT_of (tb_6 _ (List.mem_of_getElem? (i := 149) rfl)) rfl
theorem kw_6_152 : (Jvm.Cond.code ({ cls := "ParishUnionModel", name := "rated", desc := "(IIIIZ)I" } : Jvm.MethodName) prog_14_method_19_code (6 : Nat) (Option.some Jvm.ClassFile.FieldType.int)) ∈ gT := gT_of (tb_6 _ (List.mem_of_getElem? (i := 152) rfl)) rfl
theorem okX12_rated : gQok yX12_rated cX12_rated 6 (Option.some Jvm.ClassFile.FieldType.int) 5 := ⟨kw_6_152, kw_1_13, by decide +kernel, by decide +kernel, by decide +kernel⟩
theorem kw_6_150 : (Jvm.Cond.instanceMethod ({ cls := "ParishUnionModel", name := "rated", desc := "(IIIIZ)I" } : Jvm.MethodName)) ∈ gT := gT_of (tb_6 _ (List.mem_of_getElem? (i := 150) rfl)) rfl
theorem kw_6_151 : (Jvm.Cond.selects "ParishUnionModel" ({ cls := "ParishUnionModel", name := "rated", desc := "(IIIIZ)I" } : Jvm.MethodName) ({ cls := "ParishUnionModel", name := "rated", desc := "(IIIIZ)I" } : Jvm.MethodName)) ∈ gT := gT_of (tb_6 _ (List.mem_of_getElem? (i := 151) rfl)) rfl
theorem dL_law_618 : decode code 618 = .ok (.if_icmp .eq 1374, 3) := by decide +kernel
theorem dL_law_610 : decode code 610 = .ok (.iconst 1, 1) := by decide +kernel
theorem dL_law_611 : decode code 611 = .ok (.goto 4, 3) := by decide +kernel
theorem dL_law_573 : decode code 573 = .ok (.iconst 1, 1) := by decide +kernel
theorem dL_law_574 : decode code 574 = .ok (.goto 4, 3) := by decide +kernel
set_option maxRecDepth 100000 in
set_option maxHeartbeats 4000000 in
theorem law_case_6 {p : Program} {e : Env} {s : State} {m : MethodId} {below : List Frame} {meth : Method} {c : Code} {l : Launch} {D : va_G} {cA : Nat → ClassId} {b : Nat} {xs : Nat → Int32} (X : gCx p s m #[Value.ref b] meth c s.heap.size D cA "ParishUnionLaw" code 4) (hr : meth.sig.returnType = ret) (hb : b < s.heap.size ∧ va_X b 7 xs s s.heap) {M : gM} (hFr : gFr M) : G p l e room_1 s m #[Value.ref b] below meth c s.heap.size D cA 4 (lw_Z below #[Value.ref b] s) 206 87467 M 206 544 [(3, gJ 0), (2, gA s.heap.size 190), (1, gA s.heap.size 0), (0, .ref b)] [] := by
  obtain ⟨f_0_0, f_0_1, f_0_2, f_0_3, f_0_4, f_0_5, f_0_6, f_0_7, f_0_8, f_0_9, f_1_0, f_1_1, f_1_2, f_1_3, f_1_4, f_1_5, f_1_6, f_1_7, f_1_8, f_1_9, f_1_10, f_1_11, f_1_12, f_1_13, f_1_14, f_1_15, f_2_0, f_2_1, f_5_0, f_7_0, f_9_0, f_9_1, f_9_2, f_9_3, f_9_4, f_9_5, f_15_0, f_15_1, f_15_2, f_15_3, f_15_4, f_15_5, f_15_6, f_15_7, f_15_8, f_15_9, f_23_0, f_23_1, f_26_0, f_26_1, f_26_2, f_26_3, f_87_0, f_87_1, f_87_2, f_87_3, f_87_4, f_153_0, f_153_1, f_153_2, f_153_3, f_153_4, f_159_0, f_190_0, f_190_1, f_190_2, f_190_3, f_190_4, f_190_5, f_190_6, f_190_7, f_190_8, f_190_9, f_190_10, f_190_11, f_190_12, f_190_13, f_190_14, f_190_15, f_190_16, f_190_17, f_190_18, f_190_19, f_190_20, f_190_21, f_190_22, f_190_23, rents, way, beds, frost0, rows0, rooms0, tape0, car0, hS⟩ := hFr
  obtain ⟨v0, e0, r0⟩ : ∃ z : Int, xs 0 = Int32.ofInt z ∧ -2147483648 ≤ z ∧ z ≤ 2147483647 := ⟨_, gi_of _, gi_rg _⟩
  obtain ⟨v1, e1, r1⟩ : ∃ z : Int, xs 1 = Int32.ofInt z ∧ -2147483648 ≤ z ∧ z ≤ 2147483647 := ⟨_, gi_of _, gi_rg _⟩
  obtain ⟨v2, e2, r2⟩ : ∃ z : Int, xs 2 = Int32.ofInt z ∧ -2147483648 ≤ z ∧ z ≤ 2147483647 := ⟨_, gi_of _, gi_rg _⟩
  obtain ⟨v3, e3, r3⟩ : ∃ z : Int, xs 3 = Int32.ofInt z ∧ -2147483648 ≤ z ∧ z ≤ 2147483647 := ⟨_, gi_of _, gi_rg _⟩
  obtain ⟨v4, e4, r4⟩ : ∃ z : Int, xs 4 = Int32.ofInt z ∧ -2147483648 ≤ z ∧ z ≤ 2147483647 := ⟨_, gi_of _, gi_rg _⟩
  obtain ⟨v5, e5, r5⟩ : ∃ z : Int, xs 5 = Int32.ofInt z ∧ -2147483648 ≤ z ∧ z ≤ 2147483647 := ⟨_, gi_of _, gi_rg _⟩
  obtain ⟨v6, e6, r6⟩ : ∃ z : Int, xs 6 = Int32.ofInt z ∧ -2147483648 ≤ z ∧ z ≤ 2147483647 := ⟨_, gi_of _, gi_rg _⟩
  refine g_aload_n (n := 545) X 2 dL_law_544 rfl rfl rfl ?_
  refine g_aload_n (n := 546) X 3 dL_law_545 rfl rfl rfl ?_
  refine g_iload_n (n := 547) X 0 dL_law_546 rfl rfl rfl ?_
  refine g_iconst (n := 548) X dL_law_547 rfl ?_
  refine g_iadd (n := 549) (z := 1) X dL_law_548 rfl rfl ?_
  refine g_scrld (n := 550) (z := v1) X hb (by omega) (by omega) (by omega) dL_law_549 rfl e1 ?_
  refine g_aload_n (n := 551) X 3 dL_law_550 rfl rfl rfl ?_
  refine g_iload_n (n := 552) X 0 dL_law_551 rfl rfl rfl ?_
  refine g_iconst (n := 553) X dL_law_552 rfl ?_
  refine g_iadd (n := 554) (z := 2) X dL_law_553 rfl rfl ?_
  refine g_scrld (n := 555) (z := v2) X hb (by omega) (by omega) (by omega) dL_law_554 rfl e2 ?_
  refine g_aload_n (n := 556) X 3 dL_law_555 rfl rfl rfl ?_
  refine g_iload_n (n := 557) X 0 dL_law_556 rfl rfl rfl ?_
  refine g_iconst (n := 558) X dL_law_557 rfl ?_
  refine g_iadd (n := 559) (z := 3) X dL_law_558 rfl rfl ?_
  refine g_scrld (n := 560) (z := v3) X hb (by omega) (by omega) (by omega) dL_law_559 rfl e3 ?_
  refine g_aload_n (n := 561) X 3 dL_law_560 rfl rfl rfl ?_
  refine g_iload_n (n := 562) X 0 dL_law_561 rfl rfl rfl ?_
  refine g_iconst (n := 563) X dL_law_562 rfl ?_
  refine g_iadd (n := 564) (z := 4) X dL_law_563 rfl rfl ?_
  refine g_scrld (n := 565) (z := v4) X hb (by omega) (by omega) (by omega) dL_law_564 rfl e4 ?_
  refine g_aload_n (n := 566) X 3 dL_law_565 rfl rfl rfl ?_
  refine g_iload_n (n := 567) X 0 dL_law_566 rfl rfl rfl ?_
  refine g_iconst (n := 568) X dL_law_567 rfl ?_
  refine g_iadd (n := 569) (z := 5) X dL_law_568 rfl rfl ?_
  refine g_scrld (n := 570) (z := v5) X hb (by omega) (by omega) (by omega) dL_law_569 rfl e5 ?_
  refine g_if_eq (n := 573) (tgt := 577) X dL_law_570 (by decide) (by omega) rfl (fun c1 => ?_) (fun c1 => ?_)
  · refine g_iconst (n := 578) X dL_law_577 rfl ?_
    refine g_callVi (n := 581) (As := [gJ v1, gJ v2, gJ v3, gJ v4, gJ 0]) (rest := []) (cs1 := 206) (ss1 := 87467) X (c_X11_rated v1 v2 v3 v4 0 (by omega) (by omega) (by omega) (by omega) (by omega) (by omega) f_0_0 f_1_10) okX11_rated kw_3_84 ⟨kw_3_85, kw_3_86⟩ ⟨rfl, rfl⟩ ⟨Nat.le_of_ble_eq_true rfl, Nat.le_of_ble_eq_true rfl⟩ rfl (by omega) (by omega) lay_0 rfl rfl (Nat.le_of_ble_eq_true rfl) ⟨Nat.le_of_ble_eq_true rfl, Nat.le_of_ble_eq_true rfl⟩ rfl rfl dL_law_578 rfl (fun z2 M3 P4 => ?_)
    obtain ⟨P4, F5⟩ := P4
    refine g_aload_n (n := 582) X 1 dL_law_581 rfl rfl rfl ?_
    refine g_aload_n (n := 583) X 3 dL_law_582 rfl rfl rfl ?_
    refine g_iload_n (n := 584) X 0 dL_law_583 rfl rfl rfl ?_
    refine g_iconst (n := 585) X dL_law_584 rfl ?_
    refine g_iadd (n := 586) (z := 1) X dL_law_585 rfl rfl ?_
    refine g_scrld (n := 587) (z := v1) X hb (by omega) (by omega) (by omega) dL_law_586 rfl e1 ?_
    refine g_aload_n (n := 588) X 3 dL_law_587 rfl rfl rfl ?_
    refine g_iload_n (n := 589) X 0 dL_law_588 rfl rfl rfl ?_
    refine g_iconst (n := 590) X dL_law_589 rfl ?_
    refine g_iadd (n := 591) (z := 2) X dL_law_590 rfl rfl ?_
    refine g_scrld (n := 592) (z := v2) X hb (by omega) (by omega) (by omega) dL_law_591 rfl e2 ?_
    refine g_aload_n (n := 593) X 3 dL_law_592 rfl rfl rfl ?_
    refine g_iload_n (n := 594) X 0 dL_law_593 rfl rfl rfl ?_
    refine g_iconst (n := 595) X dL_law_594 rfl ?_
    refine g_iadd (n := 596) (z := 3) X dL_law_595 rfl rfl ?_
    refine g_scrld (n := 597) (z := v3) X hb (by omega) (by omega) (by omega) dL_law_596 rfl e3 ?_
    refine g_aload_n (n := 598) X 3 dL_law_597 rfl rfl rfl ?_
    refine g_iload_n (n := 599) X 0 dL_law_598 rfl rfl rfl ?_
    refine g_iconst (n := 600) X dL_law_599 rfl ?_
    refine g_iadd (n := 601) (z := 4) X dL_law_600 rfl rfl ?_
    refine g_scrld (n := 602) (z := v4) X hb (by omega) (by omega) (by omega) dL_law_601 rfl e4 ?_
    refine g_aload_n (n := 603) X 3 dL_law_602 rfl rfl rfl ?_
    refine g_iload_n (n := 604) X 0 dL_law_603 rfl rfl rfl ?_
    refine g_iconst (n := 605) X dL_law_604 rfl ?_
    refine g_iadd (n := 606) (z := 5) X dL_law_605 rfl rfl ?_
    refine g_scrld (n := 607) (z := v5) X hb (by omega) (by omega) (by omega) dL_law_606 rfl e5 ?_
    refine g_if_eq (n := 610) (tgt := 614) X dL_law_607 (by decide) (by omega) rfl (fun c6 => ?_) (fun c6 => ?_)
    · refine g_iconst (n := 615) X dL_law_614 rfl ?_
      refine g_callVi (n := 618) (As := [gJ v1, gJ v2, gJ v3, gJ v4, gJ 0]) (rest := [gJ z2]) (cs1 := 206) (ss1 := 87467) X (c_X12_rated v1 v2 v3 v4 0 (by omega) (by omega) (by omega) (by omega) (by omega) (by omega) ((congrFun (F5 190) _).trans f_190_1) ((congrFun (F5 191) _).trans ((hS 1 (by omega) (by omega)).trans (by decide)))) okX12_rated kw_6_149 ⟨kw_6_150, kw_6_151⟩ ⟨rfl, rfl⟩ ⟨Nat.le_of_ble_eq_true rfl, Nat.le_of_ble_eq_true rfl⟩ rfl (by omega) (by omega) lay_190 rfl rfl (Nat.le_of_ble_eq_true rfl) ⟨Nat.le_of_ble_eq_true rfl, Nat.le_of_ble_eq_true rfl⟩ rfl rfl dL_law_615 rfl (fun z7 M8 P9 => ?_)
      obtain ⟨P9, F10⟩ := P9
      refine g_icmp_eq (n := 621) (tgt := 1992) X dL_law_618 (by decide) (by omega) (by omega) rfl (fun c11 => ?_) (fun c11 => by exfalso; omega)
      exact law_tail X hr hb (by omega) (by omega)
    · refine g_iconst (n := 611) X dL_law_610 rfl ?_
      refine g_goto (tgt := 615) X dL_law_611 (by decide) ?_
      refine g_callVi (n := 618) (As := [gJ v1, gJ v2, gJ v3, gJ v4, gJ 1]) (rest := [gJ z2]) (cs1 := 206) (ss1 := 87467) X (c_X12_rated v1 v2 v3 v4 1 (by omega) (by omega) (by omega) (by omega) (by omega) (by omega) ((congrFun (F5 190) _).trans f_190_1) ((congrFun (F5 191) _).trans ((hS 1 (by omega) (by omega)).trans (by decide)))) okX12_rated kw_6_149 ⟨kw_6_150, kw_6_151⟩ ⟨rfl, rfl⟩ ⟨Nat.le_of_ble_eq_true rfl, Nat.le_of_ble_eq_true rfl⟩ rfl (by omega) (by omega) lay_190 rfl rfl (Nat.le_of_ble_eq_true rfl) ⟨Nat.le_of_ble_eq_true rfl, Nat.le_of_ble_eq_true rfl⟩ rfl rfl dL_law_615 rfl (fun z12 M13 P14 => ?_)
      obtain ⟨P14, F15⟩ := P14
      refine g_icmp_eq (n := 621) (tgt := 1992) X dL_law_618 (by decide) (by omega) (by omega) rfl (fun c16 => ?_) (fun c16 => by exfalso; omega)
      exact law_tail X hr hb (by omega) (by omega)
  · refine g_iconst (n := 574) X dL_law_573 rfl ?_
    refine g_goto (tgt := 578) X dL_law_574 (by decide) ?_
    refine g_callVi (n := 581) (As := [gJ v1, gJ v2, gJ v3, gJ v4, gJ 1]) (rest := []) (cs1 := 206) (ss1 := 87467) X (c_X11_rated v1 v2 v3 v4 1 (by omega) (by omega) (by omega) (by omega) (by omega) (by omega) f_0_0 f_1_10) okX11_rated kw_3_84 ⟨kw_3_85, kw_3_86⟩ ⟨rfl, rfl⟩ ⟨Nat.le_of_ble_eq_true rfl, Nat.le_of_ble_eq_true rfl⟩ rfl (by omega) (by omega) lay_0 rfl rfl (Nat.le_of_ble_eq_true rfl) ⟨Nat.le_of_ble_eq_true rfl, Nat.le_of_ble_eq_true rfl⟩ rfl rfl dL_law_578 rfl (fun z17 M18 P19 => ?_)
    obtain ⟨P19, F20⟩ := P19
    refine g_aload_n (n := 582) X 1 dL_law_581 rfl rfl rfl ?_
    refine g_aload_n (n := 583) X 3 dL_law_582 rfl rfl rfl ?_
    refine g_iload_n (n := 584) X 0 dL_law_583 rfl rfl rfl ?_
    refine g_iconst (n := 585) X dL_law_584 rfl ?_
    refine g_iadd (n := 586) (z := 1) X dL_law_585 rfl rfl ?_
    refine g_scrld (n := 587) (z := v1) X hb (by omega) (by omega) (by omega) dL_law_586 rfl e1 ?_
    refine g_aload_n (n := 588) X 3 dL_law_587 rfl rfl rfl ?_
    refine g_iload_n (n := 589) X 0 dL_law_588 rfl rfl rfl ?_
    refine g_iconst (n := 590) X dL_law_589 rfl ?_
    refine g_iadd (n := 591) (z := 2) X dL_law_590 rfl rfl ?_
    refine g_scrld (n := 592) (z := v2) X hb (by omega) (by omega) (by omega) dL_law_591 rfl e2 ?_
    refine g_aload_n (n := 593) X 3 dL_law_592 rfl rfl rfl ?_
    refine g_iload_n (n := 594) X 0 dL_law_593 rfl rfl rfl ?_
    refine g_iconst (n := 595) X dL_law_594 rfl ?_
    refine g_iadd (n := 596) (z := 3) X dL_law_595 rfl rfl ?_
    refine g_scrld (n := 597) (z := v3) X hb (by omega) (by omega) (by omega) dL_law_596 rfl e3 ?_
    refine g_aload_n (n := 598) X 3 dL_law_597 rfl rfl rfl ?_
    refine g_iload_n (n := 599) X 0 dL_law_598 rfl rfl rfl ?_
    refine g_iconst (n := 600) X dL_law_599 rfl ?_
    refine g_iadd (n := 601) (z := 4) X dL_law_600 rfl rfl ?_
    refine g_scrld (n := 602) (z := v4) X hb (by omega) (by omega) (by omega) dL_law_601 rfl e4 ?_
    refine g_aload_n (n := 603) X 3 dL_law_602 rfl rfl rfl ?_
    refine g_iload_n (n := 604) X 0 dL_law_603 rfl rfl rfl ?_
    refine g_iconst (n := 605) X dL_law_604 rfl ?_
    refine g_iadd (n := 606) (z := 5) X dL_law_605 rfl rfl ?_
    refine g_scrld (n := 607) (z := v5) X hb (by omega) (by omega) (by omega) dL_law_606 rfl e5 ?_
    refine g_if_eq (n := 610) (tgt := 614) X dL_law_607 (by decide) (by omega) rfl (fun c21 => ?_) (fun c21 => ?_)
    · refine g_iconst (n := 615) X dL_law_614 rfl ?_
      refine g_callVi (n := 618) (As := [gJ v1, gJ v2, gJ v3, gJ v4, gJ 0]) (rest := [gJ z17]) (cs1 := 206) (ss1 := 87467) X (c_X12_rated v1 v2 v3 v4 0 (by omega) (by omega) (by omega) (by omega) (by omega) (by omega) ((congrFun (F20 190) _).trans f_190_1) ((congrFun (F20 191) _).trans ((hS 1 (by omega) (by omega)).trans (by decide)))) okX12_rated kw_6_149 ⟨kw_6_150, kw_6_151⟩ ⟨rfl, rfl⟩ ⟨Nat.le_of_ble_eq_true rfl, Nat.le_of_ble_eq_true rfl⟩ rfl (by omega) (by omega) lay_190 rfl rfl (Nat.le_of_ble_eq_true rfl) ⟨Nat.le_of_ble_eq_true rfl, Nat.le_of_ble_eq_true rfl⟩ rfl rfl dL_law_615 rfl (fun z22 M23 P24 => ?_)
      obtain ⟨P24, F25⟩ := P24
      refine g_icmp_eq (n := 621) (tgt := 1992) X dL_law_618 (by decide) (by omega) (by omega) rfl (fun c26 => ?_) (fun c26 => by exfalso; omega)
      exact law_tail X hr hb (by omega) (by omega)
    · refine g_iconst (n := 611) X dL_law_610 rfl ?_
      refine g_goto (tgt := 615) X dL_law_611 (by decide) ?_
      refine g_callVi (n := 618) (As := [gJ v1, gJ v2, gJ v3, gJ v4, gJ 1]) (rest := [gJ z17]) (cs1 := 206) (ss1 := 87467) X (c_X12_rated v1 v2 v3 v4 1 (by omega) (by omega) (by omega) (by omega) (by omega) (by omega) ((congrFun (F20 190) _).trans f_190_1) ((congrFun (F20 191) _).trans ((hS 1 (by omega) (by omega)).trans (by decide)))) okX12_rated kw_6_149 ⟨kw_6_150, kw_6_151⟩ ⟨rfl, rfl⟩ ⟨Nat.le_of_ble_eq_true rfl, Nat.le_of_ble_eq_true rfl⟩ rfl (by omega) (by omega) lay_190 rfl rfl (Nat.le_of_ble_eq_true rfl) ⟨Nat.le_of_ble_eq_true rfl, Nat.le_of_ble_eq_true rfl⟩ rfl rfl dL_law_615 rfl (fun z27 M28 P29 => ?_)
      obtain ⟨P29, F30⟩ := P29
      refine g_icmp_eq (n := 621) (tgt := 1992) X dL_law_618 (by decide) (by omega) (by omega) rfl (fun c31 => ?_) (fun c31 => by exfalso; omega)
      exact law_tail X hr hb (by omega) (by omega)
theorem dL_law_623 : decode code 623 = .ok (.aload_n 1, 1) := by decide +kernel
theorem dL_law_624 : decode code 624 = .ok (.aload_n 0, 1) := by decide +kernel
theorem dL_law_625 : decode code 625 = .ok (.iload_n 3, 1) := by decide +kernel
theorem dL_law_626 : decode code 626 = .ok (.iconst 1, 1) := by decide +kernel
theorem dL_law_627 : decode code 627 = .ok (.iadd, 1) := by decide +kernel
theorem dL_law_628 : decode code 628 = .ok (.iaload, 1) := by decide +kernel
theorem dL_law_629 : decode code 629 = .ok (.aload_n 0, 1) := by decide +kernel
theorem dL_law_630 : decode code 630 = .ok (.iload_n 3, 1) := by decide +kernel
theorem dL_law_631 : decode code 631 = .ok (.iconst 2, 1) := by decide +kernel
theorem dL_law_632 : decode code 632 = .ok (.iadd, 1) := by decide +kernel
theorem dL_law_633 : decode code 633 = .ok (.iaload, 1) := by decide +kernel
theorem dL_law_634 : decode code 634 = .ok (.aload_n 0, 1) := by decide +kernel
theorem dL_law_635 : decode code 635 = .ok (.iload_n 3, 1) := by decide +kernel
theorem dL_law_636 : decode code 636 = .ok (.iconst 3, 1) := by decide +kernel
theorem dL_law_637 : decode code 637 = .ok (.iadd, 1) := by decide +kernel
theorem dL_law_638 : decode code 638 = .ok (.iaload, 1) := by decide +kernel
theorem dL_law_639 : decode code 639 = .ok (.aload_n 0, 1) := by decide +kernel
theorem dL_law_640 : decode code 640 = .ok (.iload_n 3, 1) := by decide +kernel
theorem dL_law_641 : decode code 641 = .ok (.iconst 4, 1) := by decide +kernel
theorem dL_law_642 : decode code 642 = .ok (.iadd, 1) := by decide +kernel
theorem dL_law_643 : decode code 643 = .ok (.iaload, 1) := by decide +kernel
theorem dL_law_644 : decode code 644 = .ok (.ifCond .eq 7, 3) := by decide +kernel
theorem dL_law_651 : decode code 651 = .ok (.iconst 0, 1) := by decide +kernel
theorem dL_law_652 : decode code 652 = .ok (.invokevirtual 46, 3) := by decide +kernel
theorem kw_3_88 : (Jvm.Cond.methodLink "ParishUnionLaw" (46 : Nat) ({ cls := "ParishUnion", name := "wed", desc := "(IIIZ)I" } : Jvm.MethodName)) ∈ gT := gT_of (tb_3 _ (List.mem_of_getElem? (i := 88) rfl)) rfl
theorem kw_3_91 : (Jvm.Cond.code ({ cls := "ParishUnion", name := "wed", desc := "(IIIZ)I" } : Jvm.MethodName) prog_1_method_9_code (5 : Nat) (Option.some Jvm.ClassFile.FieldType.int)) ∈ gT := gT_of (tb_3 _ (List.mem_of_getElem? (i := 91) rfl)) rfl
theorem okX11_wed : gQok yX11_wed cX11_wed 5 (Option.some Jvm.ClassFile.FieldType.int) 4 := ⟨kw_3_91, kw_1_1, by decide +kernel, by decide +kernel, by decide +kernel⟩
theorem kw_3_89 : (Jvm.Cond.instanceMethod ({ cls := "ParishUnion", name := "wed", desc := "(IIIZ)I" } : Jvm.MethodName)) ∈ gT := gT_of (tb_3 _ (List.mem_of_getElem? (i := 89) rfl)) rfl
theorem kw_3_90 : (Jvm.Cond.selects "ParishUnion" ({ cls := "ParishUnion", name := "wed", desc := "(IIIZ)I" } : Jvm.MethodName) ({ cls := "ParishUnion", name := "wed", desc := "(IIIZ)I" } : Jvm.MethodName)) ∈ gT := gT_of (tb_3 _ (List.mem_of_getElem? (i := 90) rfl)) rfl
theorem dL_law_655 : decode code 655 = .ok (.aload_n 2, 1) := by decide +kernel
theorem dL_law_656 : decode code 656 = .ok (.aload_n 0, 1) := by decide +kernel
theorem dL_law_657 : decode code 657 = .ok (.iload_n 3, 1) := by decide +kernel
theorem dL_law_658 : decode code 658 = .ok (.iconst 1, 1) := by decide +kernel
theorem dL_law_659 : decode code 659 = .ok (.iadd, 1) := by decide +kernel
theorem dL_law_660 : decode code 660 = .ok (.iaload, 1) := by decide +kernel
theorem dL_law_661 : decode code 661 = .ok (.aload_n 0, 1) := by decide +kernel
theorem dL_law_662 : decode code 662 = .ok (.iload_n 3, 1) := by decide +kernel
theorem dL_law_663 : decode code 663 = .ok (.iconst 2, 1) := by decide +kernel
theorem dL_law_664 : decode code 664 = .ok (.iadd, 1) := by decide +kernel
theorem dL_law_665 : decode code 665 = .ok (.iaload, 1) := by decide +kernel
theorem dL_law_666 : decode code 666 = .ok (.aload_n 0, 1) := by decide +kernel
theorem dL_law_667 : decode code 667 = .ok (.iload_n 3, 1) := by decide +kernel
theorem dL_law_668 : decode code 668 = .ok (.iconst 3, 1) := by decide +kernel
theorem dL_law_669 : decode code 669 = .ok (.iadd, 1) := by decide +kernel
theorem dL_law_670 : decode code 670 = .ok (.iaload, 1) := by decide +kernel
theorem dL_law_671 : decode code 671 = .ok (.aload_n 0, 1) := by decide +kernel
theorem dL_law_672 : decode code 672 = .ok (.iload_n 3, 1) := by decide +kernel
theorem dL_law_673 : decode code 673 = .ok (.iconst 4, 1) := by decide +kernel
theorem dL_law_674 : decode code 674 = .ok (.iadd, 1) := by decide +kernel
theorem dL_law_675 : decode code 675 = .ok (.iaload, 1) := by decide +kernel
theorem dL_law_676 : decode code 676 = .ok (.ifCond .eq 7, 3) := by decide +kernel
theorem dL_law_683 : decode code 683 = .ok (.iconst 0, 1) := by decide +kernel
theorem dL_law_684 : decode code 684 = .ok (.invokevirtual 50, 3) := by decide +kernel
theorem kw_6_153 : (Jvm.Cond.methodLink "ParishUnionLaw" (50 : Nat) ({ cls := "ParishUnionModel", name := "wed", desc := "(IIIZ)I" } : Jvm.MethodName)) ∈ gT := gT_of (tb_6 _ (List.mem_of_getElem? (i := 153) rfl)) rfl
theorem kw_6_156 : (Jvm.Cond.code ({ cls := "ParishUnionModel", name := "wed", desc := "(IIIZ)I" } : Jvm.MethodName) prog_14_method_20_code (5 : Nat) (Option.some Jvm.ClassFile.FieldType.int)) ∈ gT := gT_of (tb_6 _ (List.mem_of_getElem? (i := 156) rfl)) rfl
theorem okX12_wed : gQok yX12_wed cX12_wed 5 (Option.some Jvm.ClassFile.FieldType.int) 4 := ⟨kw_6_156, kw_1_13, by decide +kernel, by decide +kernel, by decide +kernel⟩
theorem kw_6_154 : (Jvm.Cond.instanceMethod ({ cls := "ParishUnionModel", name := "wed", desc := "(IIIZ)I" } : Jvm.MethodName)) ∈ gT := gT_of (tb_6 _ (List.mem_of_getElem? (i := 154) rfl)) rfl
theorem kw_6_155 : (Jvm.Cond.selects "ParishUnionModel" ({ cls := "ParishUnionModel", name := "wed", desc := "(IIIZ)I" } : Jvm.MethodName) ({ cls := "ParishUnionModel", name := "wed", desc := "(IIIZ)I" } : Jvm.MethodName)) ∈ gT := gT_of (tb_6 _ (List.mem_of_getElem? (i := 155) rfl)) rfl
theorem dL_law_687 : decode code 687 = .ok (.if_icmp .eq 1305, 3) := by decide +kernel
theorem dL_law_679 : decode code 679 = .ok (.iconst 1, 1) := by decide +kernel
theorem dL_law_680 : decode code 680 = .ok (.goto 4, 3) := by decide +kernel
theorem dL_law_647 : decode code 647 = .ok (.iconst 1, 1) := by decide +kernel
theorem dL_law_648 : decode code 648 = .ok (.goto 4, 3) := by decide +kernel
set_option maxRecDepth 100000 in
set_option maxHeartbeats 4000000 in
theorem law_case_7 {p : Program} {e : Env} {s : State} {m : MethodId} {below : List Frame} {meth : Method} {c : Code} {l : Launch} {D : va_G} {cA : Nat → ClassId} {b : Nat} {xs : Nat → Int32} (X : gCx p s m #[Value.ref b] meth c s.heap.size D cA "ParishUnionLaw" code 4) (hr : meth.sig.returnType = ret) (hb : b < s.heap.size ∧ va_X b 7 xs s s.heap) {M : gM} (hFr : gFr M) : G p l e room_1 s m #[Value.ref b] below meth c s.heap.size D cA 4 (lw_Z below #[Value.ref b] s) 206 87467 M 206 623 [(3, gJ 0), (2, gA s.heap.size 190), (1, gA s.heap.size 0), (0, .ref b)] [] := by
  obtain ⟨f_0_0, f_0_1, f_0_2, f_0_3, f_0_4, f_0_5, f_0_6, f_0_7, f_0_8, f_0_9, f_1_0, f_1_1, f_1_2, f_1_3, f_1_4, f_1_5, f_1_6, f_1_7, f_1_8, f_1_9, f_1_10, f_1_11, f_1_12, f_1_13, f_1_14, f_1_15, f_2_0, f_2_1, f_5_0, f_7_0, f_9_0, f_9_1, f_9_2, f_9_3, f_9_4, f_9_5, f_15_0, f_15_1, f_15_2, f_15_3, f_15_4, f_15_5, f_15_6, f_15_7, f_15_8, f_15_9, f_23_0, f_23_1, f_26_0, f_26_1, f_26_2, f_26_3, f_87_0, f_87_1, f_87_2, f_87_3, f_87_4, f_153_0, f_153_1, f_153_2, f_153_3, f_153_4, f_159_0, f_190_0, f_190_1, f_190_2, f_190_3, f_190_4, f_190_5, f_190_6, f_190_7, f_190_8, f_190_9, f_190_10, f_190_11, f_190_12, f_190_13, f_190_14, f_190_15, f_190_16, f_190_17, f_190_18, f_190_19, f_190_20, f_190_21, f_190_22, f_190_23, rents, way, beds, frost0, rows0, rooms0, tape0, car0, hS⟩ := hFr
  obtain ⟨v0, e0, r0⟩ : ∃ z : Int, xs 0 = Int32.ofInt z ∧ -2147483648 ≤ z ∧ z ≤ 2147483647 := ⟨_, gi_of _, gi_rg _⟩
  obtain ⟨v1, e1, r1⟩ : ∃ z : Int, xs 1 = Int32.ofInt z ∧ -2147483648 ≤ z ∧ z ≤ 2147483647 := ⟨_, gi_of _, gi_rg _⟩
  obtain ⟨v2, e2, r2⟩ : ∃ z : Int, xs 2 = Int32.ofInt z ∧ -2147483648 ≤ z ∧ z ≤ 2147483647 := ⟨_, gi_of _, gi_rg _⟩
  obtain ⟨v3, e3, r3⟩ : ∃ z : Int, xs 3 = Int32.ofInt z ∧ -2147483648 ≤ z ∧ z ≤ 2147483647 := ⟨_, gi_of _, gi_rg _⟩
  obtain ⟨v4, e4, r4⟩ : ∃ z : Int, xs 4 = Int32.ofInt z ∧ -2147483648 ≤ z ∧ z ≤ 2147483647 := ⟨_, gi_of _, gi_rg _⟩
  obtain ⟨v5, e5, r5⟩ : ∃ z : Int, xs 5 = Int32.ofInt z ∧ -2147483648 ≤ z ∧ z ≤ 2147483647 := ⟨_, gi_of _, gi_rg _⟩
  obtain ⟨v6, e6, r6⟩ : ∃ z : Int, xs 6 = Int32.ofInt z ∧ -2147483648 ≤ z ∧ z ≤ 2147483647 := ⟨_, gi_of _, gi_rg _⟩
  refine g_aload_n (n := 624) X 2 dL_law_623 rfl rfl rfl ?_
  refine g_aload_n (n := 625) X 3 dL_law_624 rfl rfl rfl ?_
  refine g_iload_n (n := 626) X 0 dL_law_625 rfl rfl rfl ?_
  refine g_iconst (n := 627) X dL_law_626 rfl ?_
  refine g_iadd (n := 628) (z := 1) X dL_law_627 rfl rfl ?_
  refine g_scrld (n := 629) (z := v1) X hb (by omega) (by omega) (by omega) dL_law_628 rfl e1 ?_
  refine g_aload_n (n := 630) X 3 dL_law_629 rfl rfl rfl ?_
  refine g_iload_n (n := 631) X 0 dL_law_630 rfl rfl rfl ?_
  refine g_iconst (n := 632) X dL_law_631 rfl ?_
  refine g_iadd (n := 633) (z := 2) X dL_law_632 rfl rfl ?_
  refine g_scrld (n := 634) (z := v2) X hb (by omega) (by omega) (by omega) dL_law_633 rfl e2 ?_
  refine g_aload_n (n := 635) X 3 dL_law_634 rfl rfl rfl ?_
  refine g_iload_n (n := 636) X 0 dL_law_635 rfl rfl rfl ?_
  refine g_iconst (n := 637) X dL_law_636 rfl ?_
  refine g_iadd (n := 638) (z := 3) X dL_law_637 rfl rfl ?_
  refine g_scrld (n := 639) (z := v3) X hb (by omega) (by omega) (by omega) dL_law_638 rfl e3 ?_
  refine g_aload_n (n := 640) X 3 dL_law_639 rfl rfl rfl ?_
  refine g_iload_n (n := 641) X 0 dL_law_640 rfl rfl rfl ?_
  refine g_iconst (n := 642) X dL_law_641 rfl ?_
  refine g_iadd (n := 643) (z := 4) X dL_law_642 rfl rfl ?_
  refine g_scrld (n := 644) (z := v4) X hb (by omega) (by omega) (by omega) dL_law_643 rfl e4 ?_
  refine g_if_eq (n := 647) (tgt := 651) X dL_law_644 (by decide) (by omega) rfl (fun c1 => ?_) (fun c1 => ?_)
  · refine g_iconst (n := 652) X dL_law_651 rfl ?_
    refine g_callVi (n := 655) (As := [gJ v1, gJ v2, gJ v3, gJ 0]) (rest := []) (cs1 := 206) (ss1 := 87467) X (c_X11_wed v1 v2 v3 0 (by omega) (by omega) (by omega) (by omega) (by omega) f_0_0 f_1_10) okX11_wed kw_3_88 ⟨kw_3_89, kw_3_90⟩ ⟨rfl, rfl⟩ ⟨Nat.le_of_ble_eq_true rfl, Nat.le_of_ble_eq_true rfl⟩ rfl (by omega) (by omega) lay_0 rfl rfl (Nat.le_of_ble_eq_true rfl) ⟨Nat.le_of_ble_eq_true rfl, Nat.le_of_ble_eq_true rfl⟩ rfl rfl dL_law_652 rfl (fun z2 M3 P4 => ?_)
    obtain ⟨P4, F5⟩ := P4
    refine g_aload_n (n := 656) X 1 dL_law_655 rfl rfl rfl ?_
    refine g_aload_n (n := 657) X 3 dL_law_656 rfl rfl rfl ?_
    refine g_iload_n (n := 658) X 0 dL_law_657 rfl rfl rfl ?_
    refine g_iconst (n := 659) X dL_law_658 rfl ?_
    refine g_iadd (n := 660) (z := 1) X dL_law_659 rfl rfl ?_
    refine g_scrld (n := 661) (z := v1) X hb (by omega) (by omega) (by omega) dL_law_660 rfl e1 ?_
    refine g_aload_n (n := 662) X 3 dL_law_661 rfl rfl rfl ?_
    refine g_iload_n (n := 663) X 0 dL_law_662 rfl rfl rfl ?_
    refine g_iconst (n := 664) X dL_law_663 rfl ?_
    refine g_iadd (n := 665) (z := 2) X dL_law_664 rfl rfl ?_
    refine g_scrld (n := 666) (z := v2) X hb (by omega) (by omega) (by omega) dL_law_665 rfl e2 ?_
    refine g_aload_n (n := 667) X 3 dL_law_666 rfl rfl rfl ?_
    refine g_iload_n (n := 668) X 0 dL_law_667 rfl rfl rfl ?_
    refine g_iconst (n := 669) X dL_law_668 rfl ?_
    refine g_iadd (n := 670) (z := 3) X dL_law_669 rfl rfl ?_
    refine g_scrld (n := 671) (z := v3) X hb (by omega) (by omega) (by omega) dL_law_670 rfl e3 ?_
    refine g_aload_n (n := 672) X 3 dL_law_671 rfl rfl rfl ?_
    refine g_iload_n (n := 673) X 0 dL_law_672 rfl rfl rfl ?_
    refine g_iconst (n := 674) X dL_law_673 rfl ?_
    refine g_iadd (n := 675) (z := 4) X dL_law_674 rfl rfl ?_
    refine g_scrld (n := 676) (z := v4) X hb (by omega) (by omega) (by omega) dL_law_675 rfl e4 ?_
    refine g_if_eq (n := 679) (tgt := 683) X dL_law_676 (by decide) (by omega) rfl (fun c6 => ?_) (fun c6 => ?_)
    · refine g_iconst (n := 684) X dL_law_683 rfl ?_
      refine g_callVi (n := 687) (As := [gJ v1, gJ v2, gJ v3, gJ 0]) (rest := [gJ z2]) (cs1 := 206) (ss1 := 87467) X (c_X12_wed v1 v2 v3 0 (by omega) (by omega) (by omega) (by omega) (by omega) ((congrFun (F5 190) _).trans f_190_1) ((congrFun (F5 191) _).trans ((hS 1 (by omega) (by omega)).trans (by decide)))) okX12_wed kw_6_153 ⟨kw_6_154, kw_6_155⟩ ⟨rfl, rfl⟩ ⟨Nat.le_of_ble_eq_true rfl, Nat.le_of_ble_eq_true rfl⟩ rfl (by omega) (by omega) lay_190 rfl rfl (Nat.le_of_ble_eq_true rfl) ⟨Nat.le_of_ble_eq_true rfl, Nat.le_of_ble_eq_true rfl⟩ rfl rfl dL_law_684 rfl (fun z7 M8 P9 => ?_)
      obtain ⟨P9, F10⟩ := P9
      refine g_icmp_eq (n := 690) (tgt := 1992) X dL_law_687 (by decide) (by omega) (by omega) rfl (fun c11 => ?_) (fun c11 => by exfalso; omega)
      exact law_tail X hr hb (by omega) (by omega)
    · refine g_iconst (n := 680) X dL_law_679 rfl ?_
      refine g_goto (tgt := 684) X dL_law_680 (by decide) ?_
      refine g_callVi (n := 687) (As := [gJ v1, gJ v2, gJ v3, gJ 1]) (rest := [gJ z2]) (cs1 := 206) (ss1 := 87467) X (c_X12_wed v1 v2 v3 1 (by omega) (by omega) (by omega) (by omega) (by omega) ((congrFun (F5 190) _).trans f_190_1) ((congrFun (F5 191) _).trans ((hS 1 (by omega) (by omega)).trans (by decide)))) okX12_wed kw_6_153 ⟨kw_6_154, kw_6_155⟩ ⟨rfl, rfl⟩ ⟨Nat.le_of_ble_eq_true rfl, Nat.le_of_ble_eq_true rfl⟩ rfl (by omega) (by omega) lay_190 rfl rfl (Nat.le_of_ble_eq_true rfl) ⟨Nat.le_of_ble_eq_true rfl, Nat.le_of_ble_eq_true rfl⟩ rfl rfl dL_law_684 rfl (fun z12 M13 P14 => ?_)
      obtain ⟨P14, F15⟩ := P14
      refine g_icmp_eq (n := 690) (tgt := 1992) X dL_law_687 (by decide) (by omega) (by omega) rfl (fun c16 => ?_) (fun c16 => by exfalso; omega)
      exact law_tail X hr hb (by omega) (by omega)
  · refine g_iconst (n := 648) X dL_law_647 rfl ?_
    refine g_goto (tgt := 652) X dL_law_648 (by decide) ?_
    refine g_callVi (n := 655) (As := [gJ v1, gJ v2, gJ v3, gJ 1]) (rest := []) (cs1 := 206) (ss1 := 87467) X (c_X11_wed v1 v2 v3 1 (by omega) (by omega) (by omega) (by omega) (by omega) f_0_0 f_1_10) okX11_wed kw_3_88 ⟨kw_3_89, kw_3_90⟩ ⟨rfl, rfl⟩ ⟨Nat.le_of_ble_eq_true rfl, Nat.le_of_ble_eq_true rfl⟩ rfl (by omega) (by omega) lay_0 rfl rfl (Nat.le_of_ble_eq_true rfl) ⟨Nat.le_of_ble_eq_true rfl, Nat.le_of_ble_eq_true rfl⟩ rfl rfl dL_law_652 rfl (fun z17 M18 P19 => ?_)
    obtain ⟨P19, F20⟩ := P19
    refine g_aload_n (n := 656) X 1 dL_law_655 rfl rfl rfl ?_
    refine g_aload_n (n := 657) X 3 dL_law_656 rfl rfl rfl ?_
    refine g_iload_n (n := 658) X 0 dL_law_657 rfl rfl rfl ?_
    refine g_iconst (n := 659) X dL_law_658 rfl ?_
    refine g_iadd (n := 660) (z := 1) X dL_law_659 rfl rfl ?_
    refine g_scrld (n := 661) (z := v1) X hb (by omega) (by omega) (by omega) dL_law_660 rfl e1 ?_
    refine g_aload_n (n := 662) X 3 dL_law_661 rfl rfl rfl ?_
    refine g_iload_n (n := 663) X 0 dL_law_662 rfl rfl rfl ?_
    refine g_iconst (n := 664) X dL_law_663 rfl ?_
    refine g_iadd (n := 665) (z := 2) X dL_law_664 rfl rfl ?_
    refine g_scrld (n := 666) (z := v2) X hb (by omega) (by omega) (by omega) dL_law_665 rfl e2 ?_
    refine g_aload_n (n := 667) X 3 dL_law_666 rfl rfl rfl ?_
    refine g_iload_n (n := 668) X 0 dL_law_667 rfl rfl rfl ?_
    refine g_iconst (n := 669) X dL_law_668 rfl ?_
    refine g_iadd (n := 670) (z := 3) X dL_law_669 rfl rfl ?_
    refine g_scrld (n := 671) (z := v3) X hb (by omega) (by omega) (by omega) dL_law_670 rfl e3 ?_
    refine g_aload_n (n := 672) X 3 dL_law_671 rfl rfl rfl ?_
    refine g_iload_n (n := 673) X 0 dL_law_672 rfl rfl rfl ?_
    refine g_iconst (n := 674) X dL_law_673 rfl ?_
    refine g_iadd (n := 675) (z := 4) X dL_law_674 rfl rfl ?_
    refine g_scrld (n := 676) (z := v4) X hb (by omega) (by omega) (by omega) dL_law_675 rfl e4 ?_
    refine g_if_eq (n := 679) (tgt := 683) X dL_law_676 (by decide) (by omega) rfl (fun c21 => ?_) (fun c21 => ?_)
    · refine g_iconst (n := 684) X dL_law_683 rfl ?_
      refine g_callVi (n := 687) (As := [gJ v1, gJ v2, gJ v3, gJ 0]) (rest := [gJ z17]) (cs1 := 206) (ss1 := 87467) X (c_X12_wed v1 v2 v3 0 (by omega) (by omega) (by omega) (by omega) (by omega) ((congrFun (F20 190) _).trans f_190_1) ((congrFun (F20 191) _).trans ((hS 1 (by omega) (by omega)).trans (by decide)))) okX12_wed kw_6_153 ⟨kw_6_154, kw_6_155⟩ ⟨rfl, rfl⟩ ⟨Nat.le_of_ble_eq_true rfl, Nat.le_of_ble_eq_true rfl⟩ rfl (by omega) (by omega) lay_190 rfl rfl (Nat.le_of_ble_eq_true rfl) ⟨Nat.le_of_ble_eq_true rfl, Nat.le_of_ble_eq_true rfl⟩ rfl rfl dL_law_684 rfl (fun z22 M23 P24 => ?_)
      obtain ⟨P24, F25⟩ := P24
      refine g_icmp_eq (n := 690) (tgt := 1992) X dL_law_687 (by decide) (by omega) (by omega) rfl (fun c26 => ?_) (fun c26 => by exfalso; omega)
      exact law_tail X hr hb (by omega) (by omega)
    · refine g_iconst (n := 680) X dL_law_679 rfl ?_
      refine g_goto (tgt := 684) X dL_law_680 (by decide) ?_
      refine g_callVi (n := 687) (As := [gJ v1, gJ v2, gJ v3, gJ 1]) (rest := [gJ z17]) (cs1 := 206) (ss1 := 87467) X (c_X12_wed v1 v2 v3 1 (by omega) (by omega) (by omega) (by omega) (by omega) ((congrFun (F20 190) _).trans f_190_1) ((congrFun (F20 191) _).trans ((hS 1 (by omega) (by omega)).trans (by decide)))) okX12_wed kw_6_153 ⟨kw_6_154, kw_6_155⟩ ⟨rfl, rfl⟩ ⟨Nat.le_of_ble_eq_true rfl, Nat.le_of_ble_eq_true rfl⟩ rfl (by omega) (by omega) lay_190 rfl rfl (Nat.le_of_ble_eq_true rfl) ⟨Nat.le_of_ble_eq_true rfl, Nat.le_of_ble_eq_true rfl⟩ rfl rfl dL_law_684 rfl (fun z27 M28 P29 => ?_)
      obtain ⟨P29, F30⟩ := P29
      refine g_icmp_eq (n := 690) (tgt := 1992) X dL_law_687 (by decide) (by omega) (by omega) rfl (fun c31 => ?_) (fun c31 => by exfalso; omega)
      exact law_tail X hr hb (by omega) (by omega)
theorem dL_law_692 : decode code 692 = .ok (.aload_n 1, 1) := by decide +kernel
theorem dL_law_693 : decode code 693 = .ok (.aload_n 0, 1) := by decide +kernel
theorem dL_law_694 : decode code 694 = .ok (.iload_n 3, 1) := by decide +kernel
theorem dL_law_695 : decode code 695 = .ok (.iconst 1, 1) := by decide +kernel
theorem dL_law_696 : decode code 696 = .ok (.iadd, 1) := by decide +kernel
theorem dL_law_697 : decode code 697 = .ok (.iaload, 1) := by decide +kernel
theorem dL_law_698 : decode code 698 = .ok (.aload_n 0, 1) := by decide +kernel
theorem dL_law_699 : decode code 699 = .ok (.iload_n 3, 1) := by decide +kernel
theorem dL_law_700 : decode code 700 = .ok (.iconst 2, 1) := by decide +kernel
theorem dL_law_701 : decode code 701 = .ok (.iadd, 1) := by decide +kernel
theorem dL_law_702 : decode code 702 = .ok (.iaload, 1) := by decide +kernel
theorem dL_law_703 : decode code 703 = .ok (.ifCond .eq 7, 3) := by decide +kernel
theorem dL_law_710 : decode code 710 = .ok (.iconst 0, 1) := by decide +kernel
theorem dL_law_711 : decode code 711 = .ok (.invokevirtual 51, 3) := by decide +kernel
theorem kw_3_92 : (Jvm.Cond.methodLink "ParishUnionLaw" (51 : Nat) ({ cls := "ParishUnion", name := "proof", desc := "(IZ)I" } : Jvm.MethodName)) ∈ gT := gT_of (tb_3 _ (List.mem_of_getElem? (i := 92) rfl)) rfl
theorem kw_3_95 : (Jvm.Cond.code ({ cls := "ParishUnion", name := "proof", desc := "(IZ)I" } : Jvm.MethodName) prog_1_method_10_code (4 : Nat) (Option.some Jvm.ClassFile.FieldType.int)) ∈ gT := gT_of (tb_3 _ (List.mem_of_getElem? (i := 95) rfl)) rfl
theorem okX11_proof : gQok yX11_proof cX11_proof 4 (Option.some Jvm.ClassFile.FieldType.int) 2 := ⟨kw_3_95, kw_1_1, by decide +kernel, by decide +kernel, by decide +kernel⟩
theorem kw_3_93 : (Jvm.Cond.instanceMethod ({ cls := "ParishUnion", name := "proof", desc := "(IZ)I" } : Jvm.MethodName)) ∈ gT := gT_of (tb_3 _ (List.mem_of_getElem? (i := 93) rfl)) rfl
theorem kw_3_94 : (Jvm.Cond.selects "ParishUnion" ({ cls := "ParishUnion", name := "proof", desc := "(IZ)I" } : Jvm.MethodName) ({ cls := "ParishUnion", name := "proof", desc := "(IZ)I" } : Jvm.MethodName)) ∈ gT := gT_of (tb_3 _ (List.mem_of_getElem? (i := 94) rfl)) rfl
theorem dL_law_714 : decode code 714 = .ok (.aload_n 2, 1) := by decide +kernel
theorem dL_law_715 : decode code 715 = .ok (.aload_n 0, 1) := by decide +kernel
theorem dL_law_716 : decode code 716 = .ok (.iload_n 3, 1) := by decide +kernel
theorem dL_law_717 : decode code 717 = .ok (.iconst 1, 1) := by decide +kernel
theorem dL_law_718 : decode code 718 = .ok (.iadd, 1) := by decide +kernel
theorem dL_law_719 : decode code 719 = .ok (.iaload, 1) := by decide +kernel
theorem dL_law_720 : decode code 720 = .ok (.aload_n 0, 1) := by decide +kernel
theorem dL_law_721 : decode code 721 = .ok (.iload_n 3, 1) := by decide +kernel
theorem dL_law_722 : decode code 722 = .ok (.iconst 2, 1) := by decide +kernel
theorem dL_law_723 : decode code 723 = .ok (.iadd, 1) := by decide +kernel
theorem dL_law_724 : decode code 724 = .ok (.iaload, 1) := by decide +kernel
theorem dL_law_725 : decode code 725 = .ok (.ifCond .eq 7, 3) := by decide +kernel
theorem dL_law_732 : decode code 732 = .ok (.iconst 0, 1) := by decide +kernel
theorem dL_law_733 : decode code 733 = .ok (.invokevirtual 55, 3) := by decide +kernel
theorem kw_6_157 : (Jvm.Cond.methodLink "ParishUnionLaw" (55 : Nat) ({ cls := "ParishUnionModel", name := "proof", desc := "(IZ)I" } : Jvm.MethodName)) ∈ gT := gT_of (tb_6 _ (List.mem_of_getElem? (i := 157) rfl)) rfl
theorem kw_6_160 : (Jvm.Cond.code ({ cls := "ParishUnionModel", name := "proof", desc := "(IZ)I" } : Jvm.MethodName) prog_14_method_22_code (5 : Nat) (Option.some Jvm.ClassFile.FieldType.int)) ∈ gT := gT_of (tb_6 _ (List.mem_of_getElem? (i := 160) rfl)) rfl
theorem okX12_proof : gQok yX12_proof cX12_proof 5 (Option.some Jvm.ClassFile.FieldType.int) 2 := ⟨kw_6_160, kw_1_13, by decide +kernel, by decide +kernel, by decide +kernel⟩
theorem kw_6_158 : (Jvm.Cond.instanceMethod ({ cls := "ParishUnionModel", name := "proof", desc := "(IZ)I" } : Jvm.MethodName)) ∈ gT := gT_of (tb_6 _ (List.mem_of_getElem? (i := 158) rfl)) rfl
theorem kw_6_159 : (Jvm.Cond.selects "ParishUnionModel" ({ cls := "ParishUnionModel", name := "proof", desc := "(IZ)I" } : Jvm.MethodName) ({ cls := "ParishUnionModel", name := "proof", desc := "(IZ)I" } : Jvm.MethodName)) ∈ gT := gT_of (tb_6 _ (List.mem_of_getElem? (i := 159) rfl)) rfl
theorem dL_law_736 : decode code 736 = .ok (.if_icmp .eq 1256, 3) := by decide +kernel
theorem dL_law_728 : decode code 728 = .ok (.iconst 1, 1) := by decide +kernel
theorem dL_law_729 : decode code 729 = .ok (.goto 4, 3) := by decide +kernel
theorem dL_law_706 : decode code 706 = .ok (.iconst 1, 1) := by decide +kernel
theorem dL_law_707 : decode code 707 = .ok (.goto 4, 3) := by decide +kernel
set_option maxRecDepth 100000 in
set_option maxHeartbeats 4000000 in
theorem law_case_8 {p : Program} {e : Env} {s : State} {m : MethodId} {below : List Frame} {meth : Method} {c : Code} {l : Launch} {D : va_G} {cA : Nat → ClassId} {b : Nat} {xs : Nat → Int32} (X : gCx p s m #[Value.ref b] meth c s.heap.size D cA "ParishUnionLaw" code 4) (hr : meth.sig.returnType = ret) (hb : b < s.heap.size ∧ va_X b 7 xs s s.heap) {M : gM} (hFr : gFr M) : G p l e room_1 s m #[Value.ref b] below meth c s.heap.size D cA 4 (lw_Z below #[Value.ref b] s) 206 87467 M 206 692 [(3, gJ 0), (2, gA s.heap.size 190), (1, gA s.heap.size 0), (0, .ref b)] [] := by
  obtain ⟨f_0_0, f_0_1, f_0_2, f_0_3, f_0_4, f_0_5, f_0_6, f_0_7, f_0_8, f_0_9, f_1_0, f_1_1, f_1_2, f_1_3, f_1_4, f_1_5, f_1_6, f_1_7, f_1_8, f_1_9, f_1_10, f_1_11, f_1_12, f_1_13, f_1_14, f_1_15, f_2_0, f_2_1, f_5_0, f_7_0, f_9_0, f_9_1, f_9_2, f_9_3, f_9_4, f_9_5, f_15_0, f_15_1, f_15_2, f_15_3, f_15_4, f_15_5, f_15_6, f_15_7, f_15_8, f_15_9, f_23_0, f_23_1, f_26_0, f_26_1, f_26_2, f_26_3, f_87_0, f_87_1, f_87_2, f_87_3, f_87_4, f_153_0, f_153_1, f_153_2, f_153_3, f_153_4, f_159_0, f_190_0, f_190_1, f_190_2, f_190_3, f_190_4, f_190_5, f_190_6, f_190_7, f_190_8, f_190_9, f_190_10, f_190_11, f_190_12, f_190_13, f_190_14, f_190_15, f_190_16, f_190_17, f_190_18, f_190_19, f_190_20, f_190_21, f_190_22, f_190_23, rents, way, beds, frost0, rows0, rooms0, tape0, car0, hS⟩ := hFr
  obtain ⟨v0, e0, r0⟩ : ∃ z : Int, xs 0 = Int32.ofInt z ∧ -2147483648 ≤ z ∧ z ≤ 2147483647 := ⟨_, gi_of _, gi_rg _⟩
  obtain ⟨v1, e1, r1⟩ : ∃ z : Int, xs 1 = Int32.ofInt z ∧ -2147483648 ≤ z ∧ z ≤ 2147483647 := ⟨_, gi_of _, gi_rg _⟩
  obtain ⟨v2, e2, r2⟩ : ∃ z : Int, xs 2 = Int32.ofInt z ∧ -2147483648 ≤ z ∧ z ≤ 2147483647 := ⟨_, gi_of _, gi_rg _⟩
  obtain ⟨v3, e3, r3⟩ : ∃ z : Int, xs 3 = Int32.ofInt z ∧ -2147483648 ≤ z ∧ z ≤ 2147483647 := ⟨_, gi_of _, gi_rg _⟩
  obtain ⟨v4, e4, r4⟩ : ∃ z : Int, xs 4 = Int32.ofInt z ∧ -2147483648 ≤ z ∧ z ≤ 2147483647 := ⟨_, gi_of _, gi_rg _⟩
  obtain ⟨v5, e5, r5⟩ : ∃ z : Int, xs 5 = Int32.ofInt z ∧ -2147483648 ≤ z ∧ z ≤ 2147483647 := ⟨_, gi_of _, gi_rg _⟩
  obtain ⟨v6, e6, r6⟩ : ∃ z : Int, xs 6 = Int32.ofInt z ∧ -2147483648 ≤ z ∧ z ≤ 2147483647 := ⟨_, gi_of _, gi_rg _⟩
  refine g_aload_n (n := 693) X 2 dL_law_692 rfl rfl rfl ?_
  refine g_aload_n (n := 694) X 3 dL_law_693 rfl rfl rfl ?_
  refine g_iload_n (n := 695) X 0 dL_law_694 rfl rfl rfl ?_
  refine g_iconst (n := 696) X dL_law_695 rfl ?_
  refine g_iadd (n := 697) (z := 1) X dL_law_696 rfl rfl ?_
  refine g_scrld (n := 698) (z := v1) X hb (by omega) (by omega) (by omega) dL_law_697 rfl e1 ?_
  refine g_aload_n (n := 699) X 3 dL_law_698 rfl rfl rfl ?_
  refine g_iload_n (n := 700) X 0 dL_law_699 rfl rfl rfl ?_
  refine g_iconst (n := 701) X dL_law_700 rfl ?_
  refine g_iadd (n := 702) (z := 2) X dL_law_701 rfl rfl ?_
  refine g_scrld (n := 703) (z := v2) X hb (by omega) (by omega) (by omega) dL_law_702 rfl e2 ?_
  refine g_if_eq (n := 706) (tgt := 710) X dL_law_703 (by decide) (by omega) rfl (fun c1 => ?_) (fun c1 => ?_)
  · refine g_iconst (n := 711) X dL_law_710 rfl ?_
    refine g_callVi (n := 714) (As := [gJ v1, gJ 0]) (rest := []) (cs1 := 206) (ss1 := 87467) X (c_X11_proof v1 0 (by omega) (by omega) (by omega) f_0_0 f_1_11) okX11_proof kw_3_92 ⟨kw_3_93, kw_3_94⟩ ⟨rfl, rfl⟩ ⟨Nat.le_of_ble_eq_true rfl, Nat.le_of_ble_eq_true rfl⟩ rfl (by omega) (by omega) lay_0 rfl rfl (Nat.le_of_ble_eq_true rfl) ⟨Nat.le_of_ble_eq_true rfl, Nat.le_of_ble_eq_true rfl⟩ rfl rfl dL_law_711 rfl (fun z2 M3 P4 => ?_)
    obtain ⟨P4, F5⟩ := P4
    refine g_aload_n (n := 715) X 1 dL_law_714 rfl rfl rfl ?_
    refine g_aload_n (n := 716) X 3 dL_law_715 rfl rfl rfl ?_
    refine g_iload_n (n := 717) X 0 dL_law_716 rfl rfl rfl ?_
    refine g_iconst (n := 718) X dL_law_717 rfl ?_
    refine g_iadd (n := 719) (z := 1) X dL_law_718 rfl rfl ?_
    refine g_scrld (n := 720) (z := v1) X hb (by omega) (by omega) (by omega) dL_law_719 rfl e1 ?_
    refine g_aload_n (n := 721) X 3 dL_law_720 rfl rfl rfl ?_
    refine g_iload_n (n := 722) X 0 dL_law_721 rfl rfl rfl ?_
    refine g_iconst (n := 723) X dL_law_722 rfl ?_
    refine g_iadd (n := 724) (z := 2) X dL_law_723 rfl rfl ?_
    refine g_scrld (n := 725) (z := v2) X hb (by omega) (by omega) (by omega) dL_law_724 rfl e2 ?_
    refine g_if_eq (n := 728) (tgt := 732) X dL_law_725 (by decide) (by omega) rfl (fun c6 => ?_) (fun c6 => ?_)
    · refine g_iconst (n := 733) X dL_law_732 rfl ?_
      refine g_callVi (n := 736) (As := [gJ v1, gJ 0]) (rest := [gJ z2]) (cs1 := 206) (ss1 := 87467) X (c_X12_proof v1 0 (by omega) (by omega) (by omega) ((congrFun (F5 190) _).trans f_190_1) ((congrFun (F5 191) _).trans ((hS 2 (by omega) (by omega)).trans (by decide)))) okX12_proof kw_6_157 ⟨kw_6_158, kw_6_159⟩ ⟨rfl, rfl⟩ ⟨Nat.le_of_ble_eq_true rfl, Nat.le_of_ble_eq_true rfl⟩ rfl (by omega) (by omega) lay_190 rfl rfl (Nat.le_of_ble_eq_true rfl) ⟨Nat.le_of_ble_eq_true rfl, Nat.le_of_ble_eq_true rfl⟩ rfl rfl dL_law_733 rfl (fun z7 M8 P9 => ?_)
      obtain ⟨P9, F10⟩ := P9
      refine g_icmp_eq (n := 739) (tgt := 1992) X dL_law_736 (by decide) (by omega) (by omega) rfl (fun c11 => ?_) (fun c11 => by exfalso; omega)
      exact law_tail X hr hb (by omega) (by omega)
    · refine g_iconst (n := 729) X dL_law_728 rfl ?_
      refine g_goto (tgt := 733) X dL_law_729 (by decide) ?_
      refine g_callVi (n := 736) (As := [gJ v1, gJ 1]) (rest := [gJ z2]) (cs1 := 206) (ss1 := 87467) X (c_X12_proof v1 1 (by omega) (by omega) (by omega) ((congrFun (F5 190) _).trans f_190_1) ((congrFun (F5 191) _).trans ((hS 2 (by omega) (by omega)).trans (by decide)))) okX12_proof kw_6_157 ⟨kw_6_158, kw_6_159⟩ ⟨rfl, rfl⟩ ⟨Nat.le_of_ble_eq_true rfl, Nat.le_of_ble_eq_true rfl⟩ rfl (by omega) (by omega) lay_190 rfl rfl (Nat.le_of_ble_eq_true rfl) ⟨Nat.le_of_ble_eq_true rfl, Nat.le_of_ble_eq_true rfl⟩ rfl rfl dL_law_733 rfl (fun z12 M13 P14 => ?_)
      obtain ⟨P14, F15⟩ := P14
      refine g_icmp_eq (n := 739) (tgt := 1992) X dL_law_736 (by decide) (by omega) (by omega) rfl (fun c16 => ?_) (fun c16 => by exfalso; omega)
      exact law_tail X hr hb (by omega) (by omega)
  · refine g_iconst (n := 707) X dL_law_706 rfl ?_
    refine g_goto (tgt := 711) X dL_law_707 (by decide) ?_
    refine g_callVi (n := 714) (As := [gJ v1, gJ 1]) (rest := []) (cs1 := 206) (ss1 := 87467) X (c_X11_proof v1 1 (by omega) (by omega) (by omega) f_0_0 f_1_11) okX11_proof kw_3_92 ⟨kw_3_93, kw_3_94⟩ ⟨rfl, rfl⟩ ⟨Nat.le_of_ble_eq_true rfl, Nat.le_of_ble_eq_true rfl⟩ rfl (by omega) (by omega) lay_0 rfl rfl (Nat.le_of_ble_eq_true rfl) ⟨Nat.le_of_ble_eq_true rfl, Nat.le_of_ble_eq_true rfl⟩ rfl rfl dL_law_711 rfl (fun z17 M18 P19 => ?_)
    obtain ⟨P19, F20⟩ := P19
    refine g_aload_n (n := 715) X 1 dL_law_714 rfl rfl rfl ?_
    refine g_aload_n (n := 716) X 3 dL_law_715 rfl rfl rfl ?_
    refine g_iload_n (n := 717) X 0 dL_law_716 rfl rfl rfl ?_
    refine g_iconst (n := 718) X dL_law_717 rfl ?_
    refine g_iadd (n := 719) (z := 1) X dL_law_718 rfl rfl ?_
    refine g_scrld (n := 720) (z := v1) X hb (by omega) (by omega) (by omega) dL_law_719 rfl e1 ?_
    refine g_aload_n (n := 721) X 3 dL_law_720 rfl rfl rfl ?_
    refine g_iload_n (n := 722) X 0 dL_law_721 rfl rfl rfl ?_
    refine g_iconst (n := 723) X dL_law_722 rfl ?_
    refine g_iadd (n := 724) (z := 2) X dL_law_723 rfl rfl ?_
    refine g_scrld (n := 725) (z := v2) X hb (by omega) (by omega) (by omega) dL_law_724 rfl e2 ?_
    refine g_if_eq (n := 728) (tgt := 732) X dL_law_725 (by decide) (by omega) rfl (fun c21 => ?_) (fun c21 => ?_)
    · refine g_iconst (n := 733) X dL_law_732 rfl ?_
      refine g_callVi (n := 736) (As := [gJ v1, gJ 0]) (rest := [gJ z17]) (cs1 := 206) (ss1 := 87467) X (c_X12_proof v1 0 (by omega) (by omega) (by omega) ((congrFun (F20 190) _).trans f_190_1) ((congrFun (F20 191) _).trans ((hS 2 (by omega) (by omega)).trans (by decide)))) okX12_proof kw_6_157 ⟨kw_6_158, kw_6_159⟩ ⟨rfl, rfl⟩ ⟨Nat.le_of_ble_eq_true rfl, Nat.le_of_ble_eq_true rfl⟩ rfl (by omega) (by omega) lay_190 rfl rfl (Nat.le_of_ble_eq_true rfl) ⟨Nat.le_of_ble_eq_true rfl, Nat.le_of_ble_eq_true rfl⟩ rfl rfl dL_law_733 rfl (fun z22 M23 P24 => ?_)
      obtain ⟨P24, F25⟩ := P24
      refine g_icmp_eq (n := 739) (tgt := 1992) X dL_law_736 (by decide) (by omega) (by omega) rfl (fun c26 => ?_) (fun c26 => by exfalso; omega)
      exact law_tail X hr hb (by omega) (by omega)
    · refine g_iconst (n := 729) X dL_law_728 rfl ?_
      refine g_goto (tgt := 733) X dL_law_729 (by decide) ?_
      refine g_callVi (n := 736) (As := [gJ v1, gJ 1]) (rest := [gJ z17]) (cs1 := 206) (ss1 := 87467) X (c_X12_proof v1 1 (by omega) (by omega) (by omega) ((congrFun (F20 190) _).trans f_190_1) ((congrFun (F20 191) _).trans ((hS 2 (by omega) (by omega)).trans (by decide)))) okX12_proof kw_6_157 ⟨kw_6_158, kw_6_159⟩ ⟨rfl, rfl⟩ ⟨Nat.le_of_ble_eq_true rfl, Nat.le_of_ble_eq_true rfl⟩ rfl (by omega) (by omega) lay_190 rfl rfl (Nat.le_of_ble_eq_true rfl) ⟨Nat.le_of_ble_eq_true rfl, Nat.le_of_ble_eq_true rfl⟩ rfl rfl dL_law_733 rfl (fun z27 M28 P29 => ?_)
      obtain ⟨P29, F30⟩ := P29
      refine g_icmp_eq (n := 739) (tgt := 1992) X dL_law_736 (by decide) (by omega) (by omega) rfl (fun c31 => ?_) (fun c31 => by exfalso; omega)
      exact law_tail X hr hb (by omega) (by omega)
theorem dL_law_741 : decode code 741 = .ok (.aload_n 1, 1) := by decide +kernel
theorem dL_law_742 : decode code 742 = .ok (.aload_n 0, 1) := by decide +kernel
theorem dL_law_743 : decode code 743 = .ok (.iload_n 3, 1) := by decide +kernel
theorem dL_law_744 : decode code 744 = .ok (.iconst 1, 1) := by decide +kernel
theorem dL_law_745 : decode code 745 = .ok (.iadd, 1) := by decide +kernel
theorem dL_law_746 : decode code 746 = .ok (.iaload, 1) := by decide +kernel
theorem dL_law_747 : decode code 747 = .ok (.aload_n 0, 1) := by decide +kernel
theorem dL_law_748 : decode code 748 = .ok (.iload_n 3, 1) := by decide +kernel
theorem dL_law_749 : decode code 749 = .ok (.iconst 2, 1) := by decide +kernel
theorem dL_law_750 : decode code 750 = .ok (.iadd, 1) := by decide +kernel
theorem dL_law_751 : decode code 751 = .ok (.iaload, 1) := by decide +kernel
theorem dL_law_752 : decode code 752 = .ok (.invokevirtual 56, 3) := by decide +kernel
theorem kw_3_100 : (Jvm.Cond.methodLink "ParishUnionLaw" (56 : Nat) ({ cls := "ParishUnion", name := "right", desc := "(II)I" } : Jvm.MethodName)) ∈ gT := gT_of (tb_3 _ (List.mem_of_getElem? (i := 100) rfl)) rfl
theorem kw_3_103 : (Jvm.Cond.code ({ cls := "ParishUnion", name := "right", desc := "(II)I" } : Jvm.MethodName) prog_1_method_11_code (4 : Nat) (Option.some Jvm.ClassFile.FieldType.int)) ∈ gT := gT_of (tb_3 _ (List.mem_of_getElem? (i := 103) rfl)) rfl
theorem okX11_right : gQok yX11_right cX11_right 4 (Option.some Jvm.ClassFile.FieldType.int) 2 := ⟨kw_3_103, kw_1_1, by decide +kernel, by decide +kernel, by decide +kernel⟩
theorem kw_3_101 : (Jvm.Cond.instanceMethod ({ cls := "ParishUnion", name := "right", desc := "(II)I" } : Jvm.MethodName)) ∈ gT := gT_of (tb_3 _ (List.mem_of_getElem? (i := 101) rfl)) rfl
theorem kw_3_102 : (Jvm.Cond.selects "ParishUnion" ({ cls := "ParishUnion", name := "right", desc := "(II)I" } : Jvm.MethodName) ({ cls := "ParishUnion", name := "right", desc := "(II)I" } : Jvm.MethodName)) ∈ gT := gT_of (tb_3 _ (List.mem_of_getElem? (i := 102) rfl)) rfl
theorem dL_law_755 : decode code 755 = .ok (.aload_n 2, 1) := by decide +kernel
theorem dL_law_756 : decode code 756 = .ok (.aload_n 0, 1) := by decide +kernel
theorem dL_law_757 : decode code 757 = .ok (.iload_n 3, 1) := by decide +kernel
theorem dL_law_758 : decode code 758 = .ok (.iconst 1, 1) := by decide +kernel
theorem dL_law_759 : decode code 759 = .ok (.iadd, 1) := by decide +kernel
theorem dL_law_760 : decode code 760 = .ok (.iaload, 1) := by decide +kernel
theorem dL_law_761 : decode code 761 = .ok (.aload_n 0, 1) := by decide +kernel
theorem dL_law_762 : decode code 762 = .ok (.iload_n 3, 1) := by decide +kernel
theorem dL_law_763 : decode code 763 = .ok (.iconst 2, 1) := by decide +kernel
theorem dL_law_764 : decode code 764 = .ok (.iadd, 1) := by decide +kernel
theorem dL_law_765 : decode code 765 = .ok (.iaload, 1) := by decide +kernel
theorem dL_law_766 : decode code 766 = .ok (.invokevirtual 59, 3) := by decide +kernel
theorem kw_6_161 : (Jvm.Cond.methodLink "ParishUnionLaw" (59 : Nat) ({ cls := "ParishUnionModel", name := "right", desc := "(II)I" } : Jvm.MethodName)) ∈ gT := gT_of (tb_6 _ (List.mem_of_getElem? (i := 161) rfl)) rfl
theorem kw_6_164 : (Jvm.Cond.code ({ cls := "ParishUnionModel", name := "right", desc := "(II)I" } : Jvm.MethodName) prog_14_method_23_code (3 : Nat) (Option.some Jvm.ClassFile.FieldType.int)) ∈ gT := gT_of (tb_6 _ (List.mem_of_getElem? (i := 164) rfl)) rfl
theorem okX12_right : gQok yX12_right cX12_right 3 (Option.some Jvm.ClassFile.FieldType.int) 2 := ⟨kw_6_164, kw_1_13, by decide +kernel, by decide +kernel, by decide +kernel⟩
theorem kw_6_162 : (Jvm.Cond.instanceMethod ({ cls := "ParishUnionModel", name := "right", desc := "(II)I" } : Jvm.MethodName)) ∈ gT := gT_of (tb_6 _ (List.mem_of_getElem? (i := 162) rfl)) rfl
theorem kw_6_163 : (Jvm.Cond.selects "ParishUnionModel" ({ cls := "ParishUnionModel", name := "right", desc := "(II)I" } : Jvm.MethodName) ({ cls := "ParishUnionModel", name := "right", desc := "(II)I" } : Jvm.MethodName)) ∈ gT := gT_of (tb_6 _ (List.mem_of_getElem? (i := 163) rfl)) rfl
theorem dL_law_769 : decode code 769 = .ok (.if_icmp .eq 1223, 3) := by decide +kernel
set_option maxRecDepth 100000 in
set_option maxHeartbeats 4000000 in
theorem law_case_9 {p : Program} {e : Env} {s : State} {m : MethodId} {below : List Frame} {meth : Method} {c : Code} {l : Launch} {D : va_G} {cA : Nat → ClassId} {b : Nat} {xs : Nat → Int32} (X : gCx p s m #[Value.ref b] meth c s.heap.size D cA "ParishUnionLaw" code 4) (hr : meth.sig.returnType = ret) (hb : b < s.heap.size ∧ va_X b 7 xs s s.heap) {M : gM} (hFr : gFr M) : G p l e room_1 s m #[Value.ref b] below meth c s.heap.size D cA 4 (lw_Z below #[Value.ref b] s) 206 87467 M 206 741 [(3, gJ 0), (2, gA s.heap.size 190), (1, gA s.heap.size 0), (0, .ref b)] [] := by
  obtain ⟨f_0_0, f_0_1, f_0_2, f_0_3, f_0_4, f_0_5, f_0_6, f_0_7, f_0_8, f_0_9, f_1_0, f_1_1, f_1_2, f_1_3, f_1_4, f_1_5, f_1_6, f_1_7, f_1_8, f_1_9, f_1_10, f_1_11, f_1_12, f_1_13, f_1_14, f_1_15, f_2_0, f_2_1, f_5_0, f_7_0, f_9_0, f_9_1, f_9_2, f_9_3, f_9_4, f_9_5, f_15_0, f_15_1, f_15_2, f_15_3, f_15_4, f_15_5, f_15_6, f_15_7, f_15_8, f_15_9, f_23_0, f_23_1, f_26_0, f_26_1, f_26_2, f_26_3, f_87_0, f_87_1, f_87_2, f_87_3, f_87_4, f_153_0, f_153_1, f_153_2, f_153_3, f_153_4, f_159_0, f_190_0, f_190_1, f_190_2, f_190_3, f_190_4, f_190_5, f_190_6, f_190_7, f_190_8, f_190_9, f_190_10, f_190_11, f_190_12, f_190_13, f_190_14, f_190_15, f_190_16, f_190_17, f_190_18, f_190_19, f_190_20, f_190_21, f_190_22, f_190_23, rents, way, beds, frost0, rows0, rooms0, tape0, car0, hS⟩ := hFr
  obtain ⟨v0, e0, r0⟩ : ∃ z : Int, xs 0 = Int32.ofInt z ∧ -2147483648 ≤ z ∧ z ≤ 2147483647 := ⟨_, gi_of _, gi_rg _⟩
  obtain ⟨v1, e1, r1⟩ : ∃ z : Int, xs 1 = Int32.ofInt z ∧ -2147483648 ≤ z ∧ z ≤ 2147483647 := ⟨_, gi_of _, gi_rg _⟩
  obtain ⟨v2, e2, r2⟩ : ∃ z : Int, xs 2 = Int32.ofInt z ∧ -2147483648 ≤ z ∧ z ≤ 2147483647 := ⟨_, gi_of _, gi_rg _⟩
  obtain ⟨v3, e3, r3⟩ : ∃ z : Int, xs 3 = Int32.ofInt z ∧ -2147483648 ≤ z ∧ z ≤ 2147483647 := ⟨_, gi_of _, gi_rg _⟩
  obtain ⟨v4, e4, r4⟩ : ∃ z : Int, xs 4 = Int32.ofInt z ∧ -2147483648 ≤ z ∧ z ≤ 2147483647 := ⟨_, gi_of _, gi_rg _⟩
  obtain ⟨v5, e5, r5⟩ : ∃ z : Int, xs 5 = Int32.ofInt z ∧ -2147483648 ≤ z ∧ z ≤ 2147483647 := ⟨_, gi_of _, gi_rg _⟩
  obtain ⟨v6, e6, r6⟩ : ∃ z : Int, xs 6 = Int32.ofInt z ∧ -2147483648 ≤ z ∧ z ≤ 2147483647 := ⟨_, gi_of _, gi_rg _⟩
  refine g_aload_n (n := 742) X 2 dL_law_741 rfl rfl rfl ?_
  refine g_aload_n (n := 743) X 3 dL_law_742 rfl rfl rfl ?_
  refine g_iload_n (n := 744) X 0 dL_law_743 rfl rfl rfl ?_
  refine g_iconst (n := 745) X dL_law_744 rfl ?_
  refine g_iadd (n := 746) (z := 1) X dL_law_745 rfl rfl ?_
  refine g_scrld (n := 747) (z := v1) X hb (by omega) (by omega) (by omega) dL_law_746 rfl e1 ?_
  refine g_aload_n (n := 748) X 3 dL_law_747 rfl rfl rfl ?_
  refine g_iload_n (n := 749) X 0 dL_law_748 rfl rfl rfl ?_
  refine g_iconst (n := 750) X dL_law_749 rfl ?_
  refine g_iadd (n := 751) (z := 2) X dL_law_750 rfl rfl ?_
  refine g_scrld (n := 752) (z := v2) X hb (by omega) (by omega) (by omega) dL_law_751 rfl e2 ?_
  refine g_callVi (n := 755) (As := [gJ v1, gJ v2]) (rest := []) (cs1 := 206) (ss1 := 87467) X (c_X11_right v1 v2 (by omega) (by omega) (by omega) f_0_0 f_1_11) okX11_right kw_3_100 ⟨kw_3_101, kw_3_102⟩ ⟨rfl, rfl⟩ ⟨Nat.le_of_ble_eq_true rfl, Nat.le_of_ble_eq_true rfl⟩ rfl (by omega) (by omega) lay_0 rfl rfl (Nat.le_of_ble_eq_true rfl) ⟨Nat.le_of_ble_eq_true rfl, Nat.le_of_ble_eq_true rfl⟩ rfl rfl dL_law_752 rfl (fun z1 M2 P3 => ?_)
  obtain ⟨P3, F4⟩ := P3
  refine g_aload_n (n := 756) X 1 dL_law_755 rfl rfl rfl ?_
  refine g_aload_n (n := 757) X 3 dL_law_756 rfl rfl rfl ?_
  refine g_iload_n (n := 758) X 0 dL_law_757 rfl rfl rfl ?_
  refine g_iconst (n := 759) X dL_law_758 rfl ?_
  refine g_iadd (n := 760) (z := 1) X dL_law_759 rfl rfl ?_
  refine g_scrld (n := 761) (z := v1) X hb (by omega) (by omega) (by omega) dL_law_760 rfl e1 ?_
  refine g_aload_n (n := 762) X 3 dL_law_761 rfl rfl rfl ?_
  refine g_iload_n (n := 763) X 0 dL_law_762 rfl rfl rfl ?_
  refine g_iconst (n := 764) X dL_law_763 rfl ?_
  refine g_iadd (n := 765) (z := 2) X dL_law_764 rfl rfl ?_
  refine g_scrld (n := 766) (z := v2) X hb (by omega) (by omega) (by omega) dL_law_765 rfl e2 ?_
  refine g_callVi (n := 769) (As := [gJ v1, gJ v2]) (rest := [gJ z1]) (cs1 := 206) (ss1 := 87467) X (c_X12_right v1 v2 (by omega) (by omega) (by omega) ((congrFun (F4 190) _).trans f_190_1) ((congrFun (F4 191) _).trans ((hS 2 (by omega) (by omega)).trans (by decide)))) okX12_right kw_6_161 ⟨kw_6_162, kw_6_163⟩ ⟨rfl, rfl⟩ ⟨Nat.le_of_ble_eq_true rfl, Nat.le_of_ble_eq_true rfl⟩ rfl (by omega) (by omega) lay_190 rfl rfl (Nat.le_of_ble_eq_true rfl) ⟨Nat.le_of_ble_eq_true rfl, Nat.le_of_ble_eq_true rfl⟩ rfl rfl dL_law_766 rfl (fun z5 M6 P7 => ?_)
  obtain ⟨P7, F8⟩ := P7
  refine g_icmp_eq (n := 772) (tgt := 1992) X dL_law_769 (by decide) (by omega) (by omega) rfl (fun c9 => ?_) (fun c9 => by exfalso; omega)
  exact law_tail X hr hb (by omega) (by omega)
theorem dL_law_774 : decode code 774 = .ok (.aload_n 1, 1) := by decide +kernel
theorem dL_law_775 : decode code 775 = .ok (.aload_n 0, 1) := by decide +kernel
theorem dL_law_776 : decode code 776 = .ok (.iload_n 3, 1) := by decide +kernel
theorem dL_law_777 : decode code 777 = .ok (.iconst 1, 1) := by decide +kernel
theorem dL_law_778 : decode code 778 = .ok (.iadd, 1) := by decide +kernel
theorem dL_law_779 : decode code 779 = .ok (.iaload, 1) := by decide +kernel
theorem dL_law_780 : decode code 780 = .ok (.aload_n 0, 1) := by decide +kernel
theorem dL_law_781 : decode code 781 = .ok (.iload_n 3, 1) := by decide +kernel
theorem dL_law_782 : decode code 782 = .ok (.iconst 2, 1) := by decide +kernel
theorem dL_law_783 : decode code 783 = .ok (.iadd, 1) := by decide +kernel
theorem dL_law_784 : decode code 784 = .ok (.iaload, 1) := by decide +kernel
theorem dL_law_785 : decode code 785 = .ok (.invokevirtual 60, 3) := by decide +kernel
theorem kw_3_108 : (Jvm.Cond.methodLink "ParishUnionLaw" (60 : Nat) ({ cls := "ParishUnion", name := "taken", desc := "(II)I" } : Jvm.MethodName)) ∈ gT := gT_of (tb_3 _ (List.mem_of_getElem? (i := 108) rfl)) rfl
theorem kw_3_111 : (Jvm.Cond.code ({ cls := "ParishUnion", name := "taken", desc := "(II)I" } : Jvm.MethodName) prog_1_method_12_code (4 : Nat) (Option.some Jvm.ClassFile.FieldType.int)) ∈ gT := gT_of (tb_3 _ (List.mem_of_getElem? (i := 111) rfl)) rfl
theorem okX11_taken : gQok yX11_taken cX11_taken 4 (Option.some Jvm.ClassFile.FieldType.int) 2 := ⟨kw_3_111, kw_1_1, by decide +kernel, by decide +kernel, by decide +kernel⟩
theorem kw_3_109 : (Jvm.Cond.instanceMethod ({ cls := "ParishUnion", name := "taken", desc := "(II)I" } : Jvm.MethodName)) ∈ gT := gT_of (tb_3 _ (List.mem_of_getElem? (i := 109) rfl)) rfl
theorem kw_3_110 : (Jvm.Cond.selects "ParishUnion" ({ cls := "ParishUnion", name := "taken", desc := "(II)I" } : Jvm.MethodName) ({ cls := "ParishUnion", name := "taken", desc := "(II)I" } : Jvm.MethodName)) ∈ gT := gT_of (tb_3 _ (List.mem_of_getElem? (i := 110) rfl)) rfl
theorem dL_law_788 : decode code 788 = .ok (.aload_n 2, 1) := by decide +kernel
theorem dL_law_789 : decode code 789 = .ok (.aload_n 0, 1) := by decide +kernel
theorem dL_law_790 : decode code 790 = .ok (.iload_n 3, 1) := by decide +kernel
theorem dL_law_791 : decode code 791 = .ok (.iconst 1, 1) := by decide +kernel
theorem dL_law_792 : decode code 792 = .ok (.iadd, 1) := by decide +kernel
theorem dL_law_793 : decode code 793 = .ok (.iaload, 1) := by decide +kernel
theorem dL_law_794 : decode code 794 = .ok (.aload_n 0, 1) := by decide +kernel
theorem dL_law_795 : decode code 795 = .ok (.iload_n 3, 1) := by decide +kernel
theorem dL_law_796 : decode code 796 = .ok (.iconst 2, 1) := by decide +kernel
theorem dL_law_797 : decode code 797 = .ok (.iadd, 1) := by decide +kernel
theorem dL_law_798 : decode code 798 = .ok (.iaload, 1) := by decide +kernel
theorem dL_law_799 : decode code 799 = .ok (.invokevirtual 63, 3) := by decide +kernel
theorem kw_6_169 : (Jvm.Cond.methodLink "ParishUnionLaw" (63 : Nat) ({ cls := "ParishUnionModel", name := "taken", desc := "(II)I" } : Jvm.MethodName)) ∈ gT := gT_of (tb_6 _ (List.mem_of_getElem? (i := 169) rfl)) rfl
theorem kw_6_172 : (Jvm.Cond.code ({ cls := "ParishUnionModel", name := "taken", desc := "(II)I" } : Jvm.MethodName) prog_14_method_25_code (4 : Nat) (Option.some Jvm.ClassFile.FieldType.int)) ∈ gT := gT_of (tb_6 _ (List.mem_of_getElem? (i := 172) rfl)) rfl
theorem okX12_taken : gQok yX12_taken cX12_taken 4 (Option.some Jvm.ClassFile.FieldType.int) 2 := ⟨kw_6_172, kw_1_13, by decide +kernel, by decide +kernel, by decide +kernel⟩
theorem kw_6_170 : (Jvm.Cond.instanceMethod ({ cls := "ParishUnionModel", name := "taken", desc := "(II)I" } : Jvm.MethodName)) ∈ gT := gT_of (tb_6 _ (List.mem_of_getElem? (i := 170) rfl)) rfl
theorem kw_6_171 : (Jvm.Cond.selects "ParishUnionModel" ({ cls := "ParishUnionModel", name := "taken", desc := "(II)I" } : Jvm.MethodName) ({ cls := "ParishUnionModel", name := "taken", desc := "(II)I" } : Jvm.MethodName)) ∈ gT := gT_of (tb_6 _ (List.mem_of_getElem? (i := 171) rfl)) rfl
theorem dL_law_802 : decode code 802 = .ok (.if_icmp .eq 1190, 3) := by decide +kernel
set_option maxRecDepth 100000 in
set_option maxHeartbeats 4000000 in
theorem law_case_10 {p : Program} {e : Env} {s : State} {m : MethodId} {below : List Frame} {meth : Method} {c : Code} {l : Launch} {D : va_G} {cA : Nat → ClassId} {b : Nat} {xs : Nat → Int32} (X : gCx p s m #[Value.ref b] meth c s.heap.size D cA "ParishUnionLaw" code 4) (hr : meth.sig.returnType = ret) (hb : b < s.heap.size ∧ va_X b 7 xs s s.heap) {M : gM} (hFr : gFr M) : G p l e room_1 s m #[Value.ref b] below meth c s.heap.size D cA 4 (lw_Z below #[Value.ref b] s) 206 87467 M 206 774 [(3, gJ 0), (2, gA s.heap.size 190), (1, gA s.heap.size 0), (0, .ref b)] [] := by
  obtain ⟨f_0_0, f_0_1, f_0_2, f_0_3, f_0_4, f_0_5, f_0_6, f_0_7, f_0_8, f_0_9, f_1_0, f_1_1, f_1_2, f_1_3, f_1_4, f_1_5, f_1_6, f_1_7, f_1_8, f_1_9, f_1_10, f_1_11, f_1_12, f_1_13, f_1_14, f_1_15, f_2_0, f_2_1, f_5_0, f_7_0, f_9_0, f_9_1, f_9_2, f_9_3, f_9_4, f_9_5, f_15_0, f_15_1, f_15_2, f_15_3, f_15_4, f_15_5, f_15_6, f_15_7, f_15_8, f_15_9, f_23_0, f_23_1, f_26_0, f_26_1, f_26_2, f_26_3, f_87_0, f_87_1, f_87_2, f_87_3, f_87_4, f_153_0, f_153_1, f_153_2, f_153_3, f_153_4, f_159_0, f_190_0, f_190_1, f_190_2, f_190_3, f_190_4, f_190_5, f_190_6, f_190_7, f_190_8, f_190_9, f_190_10, f_190_11, f_190_12, f_190_13, f_190_14, f_190_15, f_190_16, f_190_17, f_190_18, f_190_19, f_190_20, f_190_21, f_190_22, f_190_23, rents, way, beds, frost0, rows0, rooms0, tape0, car0, hS⟩ := hFr
  obtain ⟨v0, e0, r0⟩ : ∃ z : Int, xs 0 = Int32.ofInt z ∧ -2147483648 ≤ z ∧ z ≤ 2147483647 := ⟨_, gi_of _, gi_rg _⟩
  obtain ⟨v1, e1, r1⟩ : ∃ z : Int, xs 1 = Int32.ofInt z ∧ -2147483648 ≤ z ∧ z ≤ 2147483647 := ⟨_, gi_of _, gi_rg _⟩
  obtain ⟨v2, e2, r2⟩ : ∃ z : Int, xs 2 = Int32.ofInt z ∧ -2147483648 ≤ z ∧ z ≤ 2147483647 := ⟨_, gi_of _, gi_rg _⟩
  obtain ⟨v3, e3, r3⟩ : ∃ z : Int, xs 3 = Int32.ofInt z ∧ -2147483648 ≤ z ∧ z ≤ 2147483647 := ⟨_, gi_of _, gi_rg _⟩
  obtain ⟨v4, e4, r4⟩ : ∃ z : Int, xs 4 = Int32.ofInt z ∧ -2147483648 ≤ z ∧ z ≤ 2147483647 := ⟨_, gi_of _, gi_rg _⟩
  obtain ⟨v5, e5, r5⟩ : ∃ z : Int, xs 5 = Int32.ofInt z ∧ -2147483648 ≤ z ∧ z ≤ 2147483647 := ⟨_, gi_of _, gi_rg _⟩
  obtain ⟨v6, e6, r6⟩ : ∃ z : Int, xs 6 = Int32.ofInt z ∧ -2147483648 ≤ z ∧ z ≤ 2147483647 := ⟨_, gi_of _, gi_rg _⟩
  refine g_aload_n (n := 775) X 2 dL_law_774 rfl rfl rfl ?_
  refine g_aload_n (n := 776) X 3 dL_law_775 rfl rfl rfl ?_
  refine g_iload_n (n := 777) X 0 dL_law_776 rfl rfl rfl ?_
  refine g_iconst (n := 778) X dL_law_777 rfl ?_
  refine g_iadd (n := 779) (z := 1) X dL_law_778 rfl rfl ?_
  refine g_scrld (n := 780) (z := v1) X hb (by omega) (by omega) (by omega) dL_law_779 rfl e1 ?_
  refine g_aload_n (n := 781) X 3 dL_law_780 rfl rfl rfl ?_
  refine g_iload_n (n := 782) X 0 dL_law_781 rfl rfl rfl ?_
  refine g_iconst (n := 783) X dL_law_782 rfl ?_
  refine g_iadd (n := 784) (z := 2) X dL_law_783 rfl rfl ?_
  refine g_scrld (n := 785) (z := v2) X hb (by omega) (by omega) (by omega) dL_law_784 rfl e2 ?_
  refine g_callVi (n := 788) (As := [gJ v1, gJ v2]) (rest := []) (cs1 := 206) (ss1 := 87467) X (c_X11_taken v1 v2 (by omega) (by omega) (by omega) f_0_0 f_1_11) okX11_taken kw_3_108 ⟨kw_3_109, kw_3_110⟩ ⟨rfl, rfl⟩ ⟨Nat.le_of_ble_eq_true rfl, Nat.le_of_ble_eq_true rfl⟩ rfl (by omega) (by omega) lay_0 rfl rfl (Nat.le_of_ble_eq_true rfl) ⟨Nat.le_of_ble_eq_true rfl, Nat.le_of_ble_eq_true rfl⟩ rfl rfl dL_law_785 rfl (fun z1 M2 P3 => ?_)
  obtain ⟨P3, F4⟩ := P3
  refine g_aload_n (n := 789) X 1 dL_law_788 rfl rfl rfl ?_
  refine g_aload_n (n := 790) X 3 dL_law_789 rfl rfl rfl ?_
  refine g_iload_n (n := 791) X 0 dL_law_790 rfl rfl rfl ?_
  refine g_iconst (n := 792) X dL_law_791 rfl ?_
  refine g_iadd (n := 793) (z := 1) X dL_law_792 rfl rfl ?_
  refine g_scrld (n := 794) (z := v1) X hb (by omega) (by omega) (by omega) dL_law_793 rfl e1 ?_
  refine g_aload_n (n := 795) X 3 dL_law_794 rfl rfl rfl ?_
  refine g_iload_n (n := 796) X 0 dL_law_795 rfl rfl rfl ?_
  refine g_iconst (n := 797) X dL_law_796 rfl ?_
  refine g_iadd (n := 798) (z := 2) X dL_law_797 rfl rfl ?_
  refine g_scrld (n := 799) (z := v2) X hb (by omega) (by omega) (by omega) dL_law_798 rfl e2 ?_
  refine g_callVi (n := 802) (As := [gJ v1, gJ v2]) (rest := [gJ z1]) (cs1 := 206) (ss1 := 87467) X (c_X12_taken v1 v2 (by omega) (by omega) (by omega) ((congrFun (F4 190) _).trans f_190_1) ((congrFun (F4 191) _).trans ((hS 2 (by omega) (by omega)).trans (by decide)))) okX12_taken kw_6_169 ⟨kw_6_170, kw_6_171⟩ ⟨rfl, rfl⟩ ⟨Nat.le_of_ble_eq_true rfl, Nat.le_of_ble_eq_true rfl⟩ rfl (by omega) (by omega) lay_190 rfl rfl (Nat.le_of_ble_eq_true rfl) ⟨Nat.le_of_ble_eq_true rfl, Nat.le_of_ble_eq_true rfl⟩ rfl rfl dL_law_799 rfl (fun z5 M6 P7 => ?_)
  obtain ⟨P7, F8⟩ := P7
  refine g_icmp_eq (n := 805) (tgt := 1992) X dL_law_802 (by decide) (by omega) (by omega) rfl (fun c9 => ?_) (fun c9 => by exfalso; omega)
  exact law_tail X hr hb (by omega) (by omega)
theorem dL_law_807 : decode code 807 = .ok (.aload_n 1, 1) := by decide +kernel
theorem dL_law_808 : decode code 808 = .ok (.aload_n 0, 1) := by decide +kernel
theorem dL_law_809 : decode code 809 = .ok (.iload_n 3, 1) := by decide +kernel
theorem dL_law_810 : decode code 810 = .ok (.iconst 1, 1) := by decide +kernel
theorem dL_law_811 : decode code 811 = .ok (.iadd, 1) := by decide +kernel
theorem dL_law_812 : decode code 812 = .ok (.iaload, 1) := by decide +kernel
theorem dL_law_813 : decode code 813 = .ok (.aload_n 0, 1) := by decide +kernel
theorem dL_law_814 : decode code 814 = .ok (.iload_n 3, 1) := by decide +kernel
theorem dL_law_815 : decode code 815 = .ok (.iconst 2, 1) := by decide +kernel
theorem dL_law_816 : decode code 816 = .ok (.iadd, 1) := by decide +kernel
theorem dL_law_817 : decode code 817 = .ok (.iaload, 1) := by decide +kernel
theorem dL_law_818 : decode code 818 = .ok (.aload_n 0, 1) := by decide +kernel
theorem dL_law_819 : decode code 819 = .ok (.iload_n 3, 1) := by decide +kernel
theorem dL_law_820 : decode code 820 = .ok (.iconst 3, 1) := by decide +kernel
theorem dL_law_821 : decode code 821 = .ok (.iadd, 1) := by decide +kernel
theorem dL_law_822 : decode code 822 = .ok (.iaload, 1) := by decide +kernel
theorem dL_law_823 : decode code 823 = .ok (.aload_n 0, 1) := by decide +kernel
theorem dL_law_824 : decode code 824 = .ok (.iload_n 3, 1) := by decide +kernel
theorem dL_law_825 : decode code 825 = .ok (.iconst 4, 1) := by decide +kernel
theorem dL_law_826 : decode code 826 = .ok (.iadd, 1) := by decide +kernel
theorem dL_law_827 : decode code 827 = .ok (.iaload, 1) := by decide +kernel
theorem dL_law_828 : decode code 828 = .ok (.invokevirtual 64, 3) := by decide +kernel
theorem kw_3_122 : (Jvm.Cond.methodLink "ParishUnionLaw" (64 : Nat) ({ cls := "ParishUnion", name := "settle", desc := "(IIII)I" } : Jvm.MethodName)) ∈ gT := gT_of (tb_3 _ (List.mem_of_getElem? (i := 122) rfl)) rfl
theorem kw_3_125 : (Jvm.Cond.code ({ cls := "ParishUnion", name := "settle", desc := "(IIII)I" } : Jvm.MethodName) prog_1_method_13_code (5 : Nat) (Option.some Jvm.ClassFile.FieldType.int)) ∈ gT := gT_of (tb_3 _ (List.mem_of_getElem? (i := 125) rfl)) rfl
theorem okX11_settle : gQok yX11_settle cX11_settle 5 (Option.some Jvm.ClassFile.FieldType.int) 4 := ⟨kw_3_125, kw_1_1, by decide +kernel, by decide +kernel, by decide +kernel⟩
theorem kw_3_123 : (Jvm.Cond.instanceMethod ({ cls := "ParishUnion", name := "settle", desc := "(IIII)I" } : Jvm.MethodName)) ∈ gT := gT_of (tb_3 _ (List.mem_of_getElem? (i := 123) rfl)) rfl
theorem kw_3_124 : (Jvm.Cond.selects "ParishUnion" ({ cls := "ParishUnion", name := "settle", desc := "(IIII)I" } : Jvm.MethodName) ({ cls := "ParishUnion", name := "settle", desc := "(IIII)I" } : Jvm.MethodName)) ∈ gT := gT_of (tb_3 _ (List.mem_of_getElem? (i := 124) rfl)) rfl
theorem dL_law_831 : decode code 831 = .ok (.aload_n 2, 1) := by decide +kernel
theorem dL_law_832 : decode code 832 = .ok (.aload_n 0, 1) := by decide +kernel
theorem dL_law_833 : decode code 833 = .ok (.iload_n 3, 1) := by decide +kernel
theorem dL_law_834 : decode code 834 = .ok (.iconst 1, 1) := by decide +kernel
theorem dL_law_835 : decode code 835 = .ok (.iadd, 1) := by decide +kernel
theorem dL_law_836 : decode code 836 = .ok (.iaload, 1) := by decide +kernel
theorem dL_law_837 : decode code 837 = .ok (.aload_n 0, 1) := by decide +kernel
theorem dL_law_838 : decode code 838 = .ok (.iload_n 3, 1) := by decide +kernel
theorem dL_law_839 : decode code 839 = .ok (.iconst 2, 1) := by decide +kernel
theorem dL_law_840 : decode code 840 = .ok (.iadd, 1) := by decide +kernel
theorem dL_law_841 : decode code 841 = .ok (.iaload, 1) := by decide +kernel
theorem dL_law_842 : decode code 842 = .ok (.aload_n 0, 1) := by decide +kernel
theorem dL_law_843 : decode code 843 = .ok (.iload_n 3, 1) := by decide +kernel
theorem dL_law_844 : decode code 844 = .ok (.iconst 3, 1) := by decide +kernel
theorem dL_law_845 : decode code 845 = .ok (.iadd, 1) := by decide +kernel
theorem dL_law_846 : decode code 846 = .ok (.iaload, 1) := by decide +kernel
theorem dL_law_847 : decode code 847 = .ok (.aload_n 0, 1) := by decide +kernel
theorem dL_law_848 : decode code 848 = .ok (.iload_n 3, 1) := by decide +kernel
theorem dL_law_849 : decode code 849 = .ok (.iconst 4, 1) := by decide +kernel
theorem dL_law_850 : decode code 850 = .ok (.iadd, 1) := by decide +kernel
theorem dL_law_851 : decode code 851 = .ok (.iaload, 1) := by decide +kernel
theorem dL_law_852 : decode code 852 = .ok (.invokevirtual 68, 3) := by decide +kernel
theorem kw_6_177 : (Jvm.Cond.methodLink "ParishUnionLaw" (68 : Nat) ({ cls := "ParishUnionModel", name := "settle", desc := "(IIII)I" } : Jvm.MethodName)) ∈ gT := gT_of (tb_6 _ (List.mem_of_getElem? (i := 177) rfl)) rfl
theorem kw_6_180 : (Jvm.Cond.code ({ cls := "ParishUnionModel", name := "settle", desc := "(IIII)I" } : Jvm.MethodName) prog_14_method_30_code (5 : Nat) (Option.some Jvm.ClassFile.FieldType.int)) ∈ gT := gT_of (tb_6 _ (List.mem_of_getElem? (i := 180) rfl)) rfl
theorem okX12_settle : gQok yX12_settle cX12_settle 5 (Option.some Jvm.ClassFile.FieldType.int) 4 := ⟨kw_6_180, kw_1_13, by decide +kernel, by decide +kernel, by decide +kernel⟩
theorem kw_6_178 : (Jvm.Cond.instanceMethod ({ cls := "ParishUnionModel", name := "settle", desc := "(IIII)I" } : Jvm.MethodName)) ∈ gT := gT_of (tb_6 _ (List.mem_of_getElem? (i := 178) rfl)) rfl
theorem kw_6_179 : (Jvm.Cond.selects "ParishUnionModel" ({ cls := "ParishUnionModel", name := "settle", desc := "(IIII)I" } : Jvm.MethodName) ({ cls := "ParishUnionModel", name := "settle", desc := "(IIII)I" } : Jvm.MethodName)) ∈ gT := gT_of (tb_6 _ (List.mem_of_getElem? (i := 179) rfl)) rfl
theorem dL_law_855 : decode code 855 = .ok (.if_icmp .eq 1137, 3) := by decide +kernel
set_option maxRecDepth 100000 in
set_option maxHeartbeats 4000000 in
theorem law_case_11 {p : Program} {e : Env} {s : State} {m : MethodId} {below : List Frame} {meth : Method} {c : Code} {l : Launch} {D : va_G} {cA : Nat → ClassId} {b : Nat} {xs : Nat → Int32} (X : gCx p s m #[Value.ref b] meth c s.heap.size D cA "ParishUnionLaw" code 4) (hr : meth.sig.returnType = ret) (hb : b < s.heap.size ∧ va_X b 7 xs s s.heap) {M : gM} (hFr : gFr M) : G p l e room_1 s m #[Value.ref b] below meth c s.heap.size D cA 4 (lw_Z below #[Value.ref b] s) 206 87467 M 206 807 [(3, gJ 0), (2, gA s.heap.size 190), (1, gA s.heap.size 0), (0, .ref b)] [] := by
  obtain ⟨f_0_0, f_0_1, f_0_2, f_0_3, f_0_4, f_0_5, f_0_6, f_0_7, f_0_8, f_0_9, f_1_0, f_1_1, f_1_2, f_1_3, f_1_4, f_1_5, f_1_6, f_1_7, f_1_8, f_1_9, f_1_10, f_1_11, f_1_12, f_1_13, f_1_14, f_1_15, f_2_0, f_2_1, f_5_0, f_7_0, f_9_0, f_9_1, f_9_2, f_9_3, f_9_4, f_9_5, f_15_0, f_15_1, f_15_2, f_15_3, f_15_4, f_15_5, f_15_6, f_15_7, f_15_8, f_15_9, f_23_0, f_23_1, f_26_0, f_26_1, f_26_2, f_26_3, f_87_0, f_87_1, f_87_2, f_87_3, f_87_4, f_153_0, f_153_1, f_153_2, f_153_3, f_153_4, f_159_0, f_190_0, f_190_1, f_190_2, f_190_3, f_190_4, f_190_5, f_190_6, f_190_7, f_190_8, f_190_9, f_190_10, f_190_11, f_190_12, f_190_13, f_190_14, f_190_15, f_190_16, f_190_17, f_190_18, f_190_19, f_190_20, f_190_21, f_190_22, f_190_23, rents, way, beds, frost0, rows0, rooms0, tape0, car0, hS⟩ := hFr
  obtain ⟨v0, e0, r0⟩ : ∃ z : Int, xs 0 = Int32.ofInt z ∧ -2147483648 ≤ z ∧ z ≤ 2147483647 := ⟨_, gi_of _, gi_rg _⟩
  obtain ⟨v1, e1, r1⟩ : ∃ z : Int, xs 1 = Int32.ofInt z ∧ -2147483648 ≤ z ∧ z ≤ 2147483647 := ⟨_, gi_of _, gi_rg _⟩
  obtain ⟨v2, e2, r2⟩ : ∃ z : Int, xs 2 = Int32.ofInt z ∧ -2147483648 ≤ z ∧ z ≤ 2147483647 := ⟨_, gi_of _, gi_rg _⟩
  obtain ⟨v3, e3, r3⟩ : ∃ z : Int, xs 3 = Int32.ofInt z ∧ -2147483648 ≤ z ∧ z ≤ 2147483647 := ⟨_, gi_of _, gi_rg _⟩
  obtain ⟨v4, e4, r4⟩ : ∃ z : Int, xs 4 = Int32.ofInt z ∧ -2147483648 ≤ z ∧ z ≤ 2147483647 := ⟨_, gi_of _, gi_rg _⟩
  obtain ⟨v5, e5, r5⟩ : ∃ z : Int, xs 5 = Int32.ofInt z ∧ -2147483648 ≤ z ∧ z ≤ 2147483647 := ⟨_, gi_of _, gi_rg _⟩
  obtain ⟨v6, e6, r6⟩ : ∃ z : Int, xs 6 = Int32.ofInt z ∧ -2147483648 ≤ z ∧ z ≤ 2147483647 := ⟨_, gi_of _, gi_rg _⟩
  refine g_aload_n (n := 808) X 2 dL_law_807 rfl rfl rfl ?_
  refine g_aload_n (n := 809) X 3 dL_law_808 rfl rfl rfl ?_
  refine g_iload_n (n := 810) X 0 dL_law_809 rfl rfl rfl ?_
  refine g_iconst (n := 811) X dL_law_810 rfl ?_
  refine g_iadd (n := 812) (z := 1) X dL_law_811 rfl rfl ?_
  refine g_scrld (n := 813) (z := v1) X hb (by omega) (by omega) (by omega) dL_law_812 rfl e1 ?_
  refine g_aload_n (n := 814) X 3 dL_law_813 rfl rfl rfl ?_
  refine g_iload_n (n := 815) X 0 dL_law_814 rfl rfl rfl ?_
  refine g_iconst (n := 816) X dL_law_815 rfl ?_
  refine g_iadd (n := 817) (z := 2) X dL_law_816 rfl rfl ?_
  refine g_scrld (n := 818) (z := v2) X hb (by omega) (by omega) (by omega) dL_law_817 rfl e2 ?_
  refine g_aload_n (n := 819) X 3 dL_law_818 rfl rfl rfl ?_
  refine g_iload_n (n := 820) X 0 dL_law_819 rfl rfl rfl ?_
  refine g_iconst (n := 821) X dL_law_820 rfl ?_
  refine g_iadd (n := 822) (z := 3) X dL_law_821 rfl rfl ?_
  refine g_scrld (n := 823) (z := v3) X hb (by omega) (by omega) (by omega) dL_law_822 rfl e3 ?_
  refine g_aload_n (n := 824) X 3 dL_law_823 rfl rfl rfl ?_
  refine g_iload_n (n := 825) X 0 dL_law_824 rfl rfl rfl ?_
  refine g_iconst (n := 826) X dL_law_825 rfl ?_
  refine g_iadd (n := 827) (z := 4) X dL_law_826 rfl rfl ?_
  refine g_scrld (n := 828) (z := v4) X hb (by omega) (by omega) (by omega) dL_law_827 rfl e4 ?_
  refine g_callVi (n := 831) (As := [gJ v1, gJ v2, gJ v3, gJ v4]) (rest := []) (cs1 := 206) (ss1 := 87467) X (c_X11_settle v1 v2 v3 v4 (by omega) (by omega) (by omega) (by omega) (by omega) f_0_0 f_1_10) okX11_settle kw_3_122 ⟨kw_3_123, kw_3_124⟩ ⟨rfl, rfl⟩ ⟨Nat.le_of_ble_eq_true rfl, Nat.le_of_ble_eq_true rfl⟩ rfl (by omega) (by omega) lay_0 rfl rfl (Nat.le_of_ble_eq_true rfl) ⟨Nat.le_of_ble_eq_true rfl, Nat.le_of_ble_eq_true rfl⟩ rfl rfl dL_law_828 rfl (fun z1 M2 P3 => ?_)
  obtain ⟨P3, F4⟩ := P3
  refine g_aload_n (n := 832) X 1 dL_law_831 rfl rfl rfl ?_
  refine g_aload_n (n := 833) X 3 dL_law_832 rfl rfl rfl ?_
  refine g_iload_n (n := 834) X 0 dL_law_833 rfl rfl rfl ?_
  refine g_iconst (n := 835) X dL_law_834 rfl ?_
  refine g_iadd (n := 836) (z := 1) X dL_law_835 rfl rfl ?_
  refine g_scrld (n := 837) (z := v1) X hb (by omega) (by omega) (by omega) dL_law_836 rfl e1 ?_
  refine g_aload_n (n := 838) X 3 dL_law_837 rfl rfl rfl ?_
  refine g_iload_n (n := 839) X 0 dL_law_838 rfl rfl rfl ?_
  refine g_iconst (n := 840) X dL_law_839 rfl ?_
  refine g_iadd (n := 841) (z := 2) X dL_law_840 rfl rfl ?_
  refine g_scrld (n := 842) (z := v2) X hb (by omega) (by omega) (by omega) dL_law_841 rfl e2 ?_
  refine g_aload_n (n := 843) X 3 dL_law_842 rfl rfl rfl ?_
  refine g_iload_n (n := 844) X 0 dL_law_843 rfl rfl rfl ?_
  refine g_iconst (n := 845) X dL_law_844 rfl ?_
  refine g_iadd (n := 846) (z := 3) X dL_law_845 rfl rfl ?_
  refine g_scrld (n := 847) (z := v3) X hb (by omega) (by omega) (by omega) dL_law_846 rfl e3 ?_
  refine g_aload_n (n := 848) X 3 dL_law_847 rfl rfl rfl ?_
  refine g_iload_n (n := 849) X 0 dL_law_848 rfl rfl rfl ?_
  refine g_iconst (n := 850) X dL_law_849 rfl ?_
  refine g_iadd (n := 851) (z := 4) X dL_law_850 rfl rfl ?_
  refine g_scrld (n := 852) (z := v4) X hb (by omega) (by omega) (by omega) dL_law_851 rfl e4 ?_
  refine g_callVi (n := 855) (As := [gJ v1, gJ v2, gJ v3, gJ v4]) (rest := [gJ z1]) (cs1 := 206) (ss1 := 87467) X (c_X12_settle v1 v2 v3 v4 (by omega) (by omega) (by omega) (by omega) (by omega) ((congrFun (F4 190) _).trans f_190_1) ((congrFun (F4 191) _).trans ((hS 1 (by omega) (by omega)).trans (by decide)))) okX12_settle kw_6_177 ⟨kw_6_178, kw_6_179⟩ ⟨rfl, rfl⟩ ⟨Nat.le_of_ble_eq_true rfl, Nat.le_of_ble_eq_true rfl⟩ rfl (by omega) (by omega) lay_190 rfl rfl (Nat.le_of_ble_eq_true rfl) ⟨Nat.le_of_ble_eq_true rfl, Nat.le_of_ble_eq_true rfl⟩ rfl rfl dL_law_852 rfl (fun z5 M6 P7 => ?_)
  obtain ⟨P7, F8⟩ := P7
  refine g_icmp_eq (n := 858) (tgt := 1992) X dL_law_855 (by decide) (by omega) (by omega) rfl (fun c9 => ?_) (fun c9 => by exfalso; omega)
  exact law_tail X hr hb (by omega) (by omega)
theorem dL_law_860 : decode code 860 = .ok (.aload_n 1, 1) := by decide +kernel
theorem dL_law_861 : decode code 861 = .ok (.aload_n 0, 1) := by decide +kernel
theorem dL_law_862 : decode code 862 = .ok (.iload_n 3, 1) := by decide +kernel
theorem dL_law_863 : decode code 863 = .ok (.iconst 1, 1) := by decide +kernel
theorem dL_law_864 : decode code 864 = .ok (.iadd, 1) := by decide +kernel
theorem dL_law_865 : decode code 865 = .ok (.iaload, 1) := by decide +kernel
theorem dL_law_866 : decode code 866 = .ok (.aload_n 0, 1) := by decide +kernel
theorem dL_law_867 : decode code 867 = .ok (.iload_n 3, 1) := by decide +kernel
theorem dL_law_868 : decode code 868 = .ok (.iconst 2, 1) := by decide +kernel
theorem dL_law_869 : decode code 869 = .ok (.iadd, 1) := by decide +kernel
theorem dL_law_870 : decode code 870 = .ok (.iaload, 1) := by decide +kernel
theorem dL_law_871 : decode code 871 = .ok (.aload_n 0, 1) := by decide +kernel
theorem dL_law_872 : decode code 872 = .ok (.iload_n 3, 1) := by decide +kernel
theorem dL_law_873 : decode code 873 = .ok (.iconst 3, 1) := by decide +kernel
theorem dL_law_874 : decode code 874 = .ok (.iadd, 1) := by decide +kernel
theorem dL_law_875 : decode code 875 = .ok (.iaload, 1) := by decide +kernel
theorem dL_law_876 : decode code 876 = .ok (.aload_n 0, 1) := by decide +kernel
theorem dL_law_877 : decode code 877 = .ok (.iload_n 3, 1) := by decide +kernel
theorem dL_law_878 : decode code 878 = .ok (.iconst 4, 1) := by decide +kernel
theorem dL_law_879 : decode code 879 = .ok (.iadd, 1) := by decide +kernel
theorem dL_law_880 : decode code 880 = .ok (.iaload, 1) := by decide +kernel
theorem dL_law_881 : decode code 881 = .ok (.invokevirtual 69, 3) := by decide +kernel
theorem kw_3_168 : (Jvm.Cond.methodLink "ParishUnionLaw" (69 : Nat) ({ cls := "ParishUnion", name := "maybe", desc := "(IIII)I" } : Jvm.MethodName)) ∈ gT := gT_of (tb_3 _ (List.mem_of_getElem? (i := 168) rfl)) rfl
theorem kw_3_171 : (Jvm.Cond.code ({ cls := "ParishUnion", name := "maybe", desc := "(IIII)I" } : Jvm.MethodName) prog_1_method_14_code (5 : Nat) (Option.some Jvm.ClassFile.FieldType.int)) ∈ gT := gT_of (tb_3 _ (List.mem_of_getElem? (i := 171) rfl)) rfl
theorem okX11_maybe : gQok yX11_maybe cX11_maybe 5 (Option.some Jvm.ClassFile.FieldType.int) 4 := ⟨kw_3_171, kw_1_1, by decide +kernel, by decide +kernel, by decide +kernel⟩
theorem kw_3_169 : (Jvm.Cond.instanceMethod ({ cls := "ParishUnion", name := "maybe", desc := "(IIII)I" } : Jvm.MethodName)) ∈ gT := gT_of (tb_3 _ (List.mem_of_getElem? (i := 169) rfl)) rfl
theorem kw_3_170 : (Jvm.Cond.selects "ParishUnion" ({ cls := "ParishUnion", name := "maybe", desc := "(IIII)I" } : Jvm.MethodName) ({ cls := "ParishUnion", name := "maybe", desc := "(IIII)I" } : Jvm.MethodName)) ∈ gT := gT_of (tb_3 _ (List.mem_of_getElem? (i := 170) rfl)) rfl
theorem dL_law_884 : decode code 884 = .ok (.aload_n 2, 1) := by decide +kernel
theorem dL_law_885 : decode code 885 = .ok (.aload_n 0, 1) := by decide +kernel
theorem dL_law_886 : decode code 886 = .ok (.iload_n 3, 1) := by decide +kernel
theorem dL_law_887 : decode code 887 = .ok (.iconst 1, 1) := by decide +kernel
theorem dL_law_888 : decode code 888 = .ok (.iadd, 1) := by decide +kernel
theorem dL_law_889 : decode code 889 = .ok (.iaload, 1) := by decide +kernel
theorem dL_law_890 : decode code 890 = .ok (.aload_n 0, 1) := by decide +kernel
theorem dL_law_891 : decode code 891 = .ok (.iload_n 3, 1) := by decide +kernel
theorem dL_law_892 : decode code 892 = .ok (.iconst 2, 1) := by decide +kernel
theorem dL_law_893 : decode code 893 = .ok (.iadd, 1) := by decide +kernel
theorem dL_law_894 : decode code 894 = .ok (.iaload, 1) := by decide +kernel
theorem dL_law_895 : decode code 895 = .ok (.aload_n 0, 1) := by decide +kernel
theorem dL_law_896 : decode code 896 = .ok (.iload_n 3, 1) := by decide +kernel
theorem dL_law_897 : decode code 897 = .ok (.iconst 3, 1) := by decide +kernel
theorem dL_law_898 : decode code 898 = .ok (.iadd, 1) := by decide +kernel
theorem dL_law_899 : decode code 899 = .ok (.iaload, 1) := by decide +kernel
theorem dL_law_900 : decode code 900 = .ok (.aload_n 0, 1) := by decide +kernel
theorem dL_law_901 : decode code 901 = .ok (.iload_n 3, 1) := by decide +kernel
theorem dL_law_902 : decode code 902 = .ok (.iconst 4, 1) := by decide +kernel
theorem dL_law_903 : decode code 903 = .ok (.iadd, 1) := by decide +kernel
theorem dL_law_904 : decode code 904 = .ok (.iaload, 1) := by decide +kernel
theorem dL_law_905 : decode code 905 = .ok (.invokevirtual 72, 3) := by decide +kernel
theorem kw_6_216 : (Jvm.Cond.methodLink "ParishUnionLaw" (72 : Nat) ({ cls := "ParishUnionModel", name := "maybe", desc := "(IIII)I" } : Jvm.MethodName)) ∈ gT := gT_of (tb_6 _ (List.mem_of_getElem? (i := 216) rfl)) rfl
theorem kw_6_219 : (Jvm.Cond.code ({ cls := "ParishUnionModel", name := "maybe", desc := "(IIII)I" } : Jvm.MethodName) prog_14_method_33_code (13 : Nat) (Option.some Jvm.ClassFile.FieldType.int)) ∈ gT := gT_of (tb_6 _ (List.mem_of_getElem? (i := 219) rfl)) rfl
theorem okX12_maybe : gQok yX12_maybe cX12_maybe 13 (Option.some Jvm.ClassFile.FieldType.int) 4 := ⟨kw_6_219, kw_1_13, by decide +kernel, by decide +kernel, by decide +kernel⟩
theorem kw_6_217 : (Jvm.Cond.instanceMethod ({ cls := "ParishUnionModel", name := "maybe", desc := "(IIII)I" } : Jvm.MethodName)) ∈ gT := gT_of (tb_6 _ (List.mem_of_getElem? (i := 217) rfl)) rfl
theorem kw_6_218 : (Jvm.Cond.selects "ParishUnionModel" ({ cls := "ParishUnionModel", name := "maybe", desc := "(IIII)I" } : Jvm.MethodName) ({ cls := "ParishUnionModel", name := "maybe", desc := "(IIII)I" } : Jvm.MethodName)) ∈ gT := gT_of (tb_6 _ (List.mem_of_getElem? (i := 218) rfl)) rfl
theorem dL_law_908 : decode code 908 = .ok (.if_icmp .eq 1084, 3) := by decide +kernel
set_option maxRecDepth 100000 in
set_option maxHeartbeats 4000000 in
theorem law_case_12 {p : Program} {e : Env} {s : State} {m : MethodId} {below : List Frame} {meth : Method} {c : Code} {l : Launch} {D : va_G} {cA : Nat → ClassId} {b : Nat} {xs : Nat → Int32} (X : gCx p s m #[Value.ref b] meth c s.heap.size D cA "ParishUnionLaw" code 4) (hr : meth.sig.returnType = ret) (hb : b < s.heap.size ∧ va_X b 7 xs s s.heap) {M : gM} (hFr : gFr M) : G p l e room_1 s m #[Value.ref b] below meth c s.heap.size D cA 4 (lw_Z below #[Value.ref b] s) 206 87467 M 206 860 [(3, gJ 0), (2, gA s.heap.size 190), (1, gA s.heap.size 0), (0, .ref b)] [] := by
  obtain ⟨f_0_0, f_0_1, f_0_2, f_0_3, f_0_4, f_0_5, f_0_6, f_0_7, f_0_8, f_0_9, f_1_0, f_1_1, f_1_2, f_1_3, f_1_4, f_1_5, f_1_6, f_1_7, f_1_8, f_1_9, f_1_10, f_1_11, f_1_12, f_1_13, f_1_14, f_1_15, f_2_0, f_2_1, f_5_0, f_7_0, f_9_0, f_9_1, f_9_2, f_9_3, f_9_4, f_9_5, f_15_0, f_15_1, f_15_2, f_15_3, f_15_4, f_15_5, f_15_6, f_15_7, f_15_8, f_15_9, f_23_0, f_23_1, f_26_0, f_26_1, f_26_2, f_26_3, f_87_0, f_87_1, f_87_2, f_87_3, f_87_4, f_153_0, f_153_1, f_153_2, f_153_3, f_153_4, f_159_0, f_190_0, f_190_1, f_190_2, f_190_3, f_190_4, f_190_5, f_190_6, f_190_7, f_190_8, f_190_9, f_190_10, f_190_11, f_190_12, f_190_13, f_190_14, f_190_15, f_190_16, f_190_17, f_190_18, f_190_19, f_190_20, f_190_21, f_190_22, f_190_23, rents, way, beds, frost0, rows0, rooms0, tape0, car0, hS⟩ := hFr
  obtain ⟨v0, e0, r0⟩ : ∃ z : Int, xs 0 = Int32.ofInt z ∧ -2147483648 ≤ z ∧ z ≤ 2147483647 := ⟨_, gi_of _, gi_rg _⟩
  obtain ⟨v1, e1, r1⟩ : ∃ z : Int, xs 1 = Int32.ofInt z ∧ -2147483648 ≤ z ∧ z ≤ 2147483647 := ⟨_, gi_of _, gi_rg _⟩
  obtain ⟨v2, e2, r2⟩ : ∃ z : Int, xs 2 = Int32.ofInt z ∧ -2147483648 ≤ z ∧ z ≤ 2147483647 := ⟨_, gi_of _, gi_rg _⟩
  obtain ⟨v3, e3, r3⟩ : ∃ z : Int, xs 3 = Int32.ofInt z ∧ -2147483648 ≤ z ∧ z ≤ 2147483647 := ⟨_, gi_of _, gi_rg _⟩
  obtain ⟨v4, e4, r4⟩ : ∃ z : Int, xs 4 = Int32.ofInt z ∧ -2147483648 ≤ z ∧ z ≤ 2147483647 := ⟨_, gi_of _, gi_rg _⟩
  obtain ⟨v5, e5, r5⟩ : ∃ z : Int, xs 5 = Int32.ofInt z ∧ -2147483648 ≤ z ∧ z ≤ 2147483647 := ⟨_, gi_of _, gi_rg _⟩
  obtain ⟨v6, e6, r6⟩ : ∃ z : Int, xs 6 = Int32.ofInt z ∧ -2147483648 ≤ z ∧ z ≤ 2147483647 := ⟨_, gi_of _, gi_rg _⟩
  refine g_aload_n (n := 861) X 2 dL_law_860 rfl rfl rfl ?_
  refine g_aload_n (n := 862) X 3 dL_law_861 rfl rfl rfl ?_
  refine g_iload_n (n := 863) X 0 dL_law_862 rfl rfl rfl ?_
  refine g_iconst (n := 864) X dL_law_863 rfl ?_
  refine g_iadd (n := 865) (z := 1) X dL_law_864 rfl rfl ?_
  refine g_scrld (n := 866) (z := v1) X hb (by omega) (by omega) (by omega) dL_law_865 rfl e1 ?_
  refine g_aload_n (n := 867) X 3 dL_law_866 rfl rfl rfl ?_
  refine g_iload_n (n := 868) X 0 dL_law_867 rfl rfl rfl ?_
  refine g_iconst (n := 869) X dL_law_868 rfl ?_
  refine g_iadd (n := 870) (z := 2) X dL_law_869 rfl rfl ?_
  refine g_scrld (n := 871) (z := v2) X hb (by omega) (by omega) (by omega) dL_law_870 rfl e2 ?_
  refine g_aload_n (n := 872) X 3 dL_law_871 rfl rfl rfl ?_
  refine g_iload_n (n := 873) X 0 dL_law_872 rfl rfl rfl ?_
  refine g_iconst (n := 874) X dL_law_873 rfl ?_
  refine g_iadd (n := 875) (z := 3) X dL_law_874 rfl rfl ?_
  refine g_scrld (n := 876) (z := v3) X hb (by omega) (by omega) (by omega) dL_law_875 rfl e3 ?_
  refine g_aload_n (n := 877) X 3 dL_law_876 rfl rfl rfl ?_
  refine g_iload_n (n := 878) X 0 dL_law_877 rfl rfl rfl ?_
  refine g_iconst (n := 879) X dL_law_878 rfl ?_
  refine g_iadd (n := 880) (z := 4) X dL_law_879 rfl rfl ?_
  refine g_scrld (n := 881) (z := v4) X hb (by omega) (by omega) (by omega) dL_law_880 rfl e4 ?_
  refine g_callVi (n := 884) (As := [gJ v1, gJ v2, gJ v3, gJ v4]) (rest := []) (cs1 := 206) (ss1 := 87467) X (c_X11_maybe v1 v2 v3 v4 (by omega) (by omega) (by omega) (by omega) (by omega) f_0_0 f_1_10) okX11_maybe kw_3_168 ⟨kw_3_169, kw_3_170⟩ ⟨rfl, rfl⟩ ⟨Nat.le_of_ble_eq_true rfl, Nat.le_of_ble_eq_true rfl⟩ rfl (by omega) (by omega) lay_0 rfl rfl (Nat.le_of_ble_eq_true rfl) ⟨Nat.le_of_ble_eq_true rfl, Nat.le_of_ble_eq_true rfl⟩ rfl rfl dL_law_881 rfl (fun z1 M2 P3 => ?_)
  obtain ⟨P3, F4⟩ := P3
  refine g_aload_n (n := 885) X 1 dL_law_884 rfl rfl rfl ?_
  refine g_aload_n (n := 886) X 3 dL_law_885 rfl rfl rfl ?_
  refine g_iload_n (n := 887) X 0 dL_law_886 rfl rfl rfl ?_
  refine g_iconst (n := 888) X dL_law_887 rfl ?_
  refine g_iadd (n := 889) (z := 1) X dL_law_888 rfl rfl ?_
  refine g_scrld (n := 890) (z := v1) X hb (by omega) (by omega) (by omega) dL_law_889 rfl e1 ?_
  refine g_aload_n (n := 891) X 3 dL_law_890 rfl rfl rfl ?_
  refine g_iload_n (n := 892) X 0 dL_law_891 rfl rfl rfl ?_
  refine g_iconst (n := 893) X dL_law_892 rfl ?_
  refine g_iadd (n := 894) (z := 2) X dL_law_893 rfl rfl ?_
  refine g_scrld (n := 895) (z := v2) X hb (by omega) (by omega) (by omega) dL_law_894 rfl e2 ?_
  refine g_aload_n (n := 896) X 3 dL_law_895 rfl rfl rfl ?_
  refine g_iload_n (n := 897) X 0 dL_law_896 rfl rfl rfl ?_
  refine g_iconst (n := 898) X dL_law_897 rfl ?_
  refine g_iadd (n := 899) (z := 3) X dL_law_898 rfl rfl ?_
  refine g_scrld (n := 900) (z := v3) X hb (by omega) (by omega) (by omega) dL_law_899 rfl e3 ?_
  refine g_aload_n (n := 901) X 3 dL_law_900 rfl rfl rfl ?_
  refine g_iload_n (n := 902) X 0 dL_law_901 rfl rfl rfl ?_
  refine g_iconst (n := 903) X dL_law_902 rfl ?_
  refine g_iadd (n := 904) (z := 4) X dL_law_903 rfl rfl ?_
  refine g_scrld (n := 905) (z := v4) X hb (by omega) (by omega) (by omega) dL_law_904 rfl e4 ?_
  refine g_callVi (n := 908) (As := [gJ v1, gJ v2, gJ v3, gJ v4]) (rest := [gJ z1]) (cs1 := 206) (ss1 := 87467) X (c_X12_maybe v1 v2 v3 v4 (by omega) (by omega) (by omega) (by omega) (by omega) ((congrFun (F4 190) _).trans f_190_1) ((congrFun (F4 191) _).trans ((hS 1 (by omega) (by omega)).trans (by decide)))) okX12_maybe kw_6_216 ⟨kw_6_217, kw_6_218⟩ ⟨rfl, rfl⟩ ⟨Nat.le_of_ble_eq_true rfl, Nat.le_of_ble_eq_true rfl⟩ rfl (by omega) (by omega) lay_190 rfl rfl (Nat.le_of_ble_eq_true rfl) ⟨Nat.le_of_ble_eq_true rfl, Nat.le_of_ble_eq_true rfl⟩ rfl rfl dL_law_905 rfl (fun z5 M6 P7 => ?_)
  obtain ⟨P7, F8⟩ := P7
  refine g_icmp_eq (n := 911) (tgt := 1992) X dL_law_908 (by decide) (by omega) (by omega) rfl (fun c9 => ?_) (fun c9 => by exfalso; omega)
  exact law_tail X hr hb (by omega) (by omega)
theorem dL_law_913 : decode code 913 = .ok (.aload_n 1, 1) := by decide +kernel
theorem dL_law_914 : decode code 914 = .ok (.aload_n 0, 1) := by decide +kernel
theorem dL_law_915 : decode code 915 = .ok (.iload_n 3, 1) := by decide +kernel
theorem dL_law_916 : decode code 916 = .ok (.iconst 1, 1) := by decide +kernel
theorem dL_law_917 : decode code 917 = .ok (.iadd, 1) := by decide +kernel
theorem dL_law_918 : decode code 918 = .ok (.iaload, 1) := by decide +kernel
theorem dL_law_919 : decode code 919 = .ok (.i2l, 1) := by decide +kernel
theorem dL_law_920 : decode code 920 = .ok (.bipush 32, 2) := by decide +kernel
theorem dL_law_922 : decode code 922 = .ok (.lshl, 1) := by decide +kernel
theorem dL_law_923 : decode code 923 = .ok (.aload_n 0, 1) := by decide +kernel
theorem dL_law_924 : decode code 924 = .ok (.iload_n 3, 1) := by decide +kernel
theorem dL_law_925 : decode code 925 = .ok (.iconst 2, 1) := by decide +kernel
theorem dL_law_926 : decode code 926 = .ok (.iadd, 1) := by decide +kernel
theorem dL_law_927 : decode code 927 = .ok (.iaload, 1) := by decide +kernel
theorem dL_law_928 : decode code 928 = .ok (.i2l, 1) := by decide +kernel
theorem dL_law_929 : decode code 929 = .ok (.ldc2_w 73, 3) := by decide +kernel
theorem kw_8_53 : (Jvm.Cond.constantLong "ParishUnionLaw" (73 : Nat) (4294967295 : Int64)) ∈ gT := gT_of (tb_8 _ (List.mem_of_getElem? (i := 53) rfl)) rfl
theorem dL_law_932 : decode code 932 = .ok (.land, 1) := by decide +kernel
theorem dL_law_933 : decode code 933 = .ok (.lor, 1) := by decide +kernel
theorem dL_law_934 : decode code 934 = .ok (.aload_n 0, 1) := by decide +kernel
theorem dL_law_935 : decode code 935 = .ok (.iload_n 3, 1) := by decide +kernel
theorem dL_law_936 : decode code 936 = .ok (.iconst 3, 1) := by decide +kernel
theorem dL_law_937 : decode code 937 = .ok (.iadd, 1) := by decide +kernel
theorem dL_law_938 : decode code 938 = .ok (.iaload, 1) := by decide +kernel
theorem dL_law_939 : decode code 939 = .ok (.invokevirtual 75, 3) := by decide +kernel
theorem kw_3_191 : (Jvm.Cond.methodLink "ParishUnionLaw" (75 : Nat) ({ cls := "ParishUnion", name := "feed", desc := "(JI)I" } : Jvm.MethodName)) ∈ gT := gT_of (tb_3 _ (List.mem_of_getElem? (i := 191) rfl)) rfl
theorem kw_3_194 : (Jvm.Cond.code ({ cls := "ParishUnion", name := "feed", desc := "(JI)I" } : Jvm.MethodName) prog_1_method_15_code (5 : Nat) (Option.some Jvm.ClassFile.FieldType.int)) ∈ gT := gT_of (tb_3 _ (List.mem_of_getElem? (i := 194) rfl)) rfl
theorem okX11_feed : gQok yX11_feed cX11_feed 5 (Option.some Jvm.ClassFile.FieldType.int) 2 := ⟨kw_3_194, kw_1_1, by decide +kernel, by decide +kernel, by decide +kernel⟩
theorem kw_3_192 : (Jvm.Cond.instanceMethod ({ cls := "ParishUnion", name := "feed", desc := "(JI)I" } : Jvm.MethodName)) ∈ gT := gT_of (tb_3 _ (List.mem_of_getElem? (i := 192) rfl)) rfl
theorem kw_3_193 : (Jvm.Cond.selects "ParishUnion" ({ cls := "ParishUnion", name := "feed", desc := "(JI)I" } : Jvm.MethodName) ({ cls := "ParishUnion", name := "feed", desc := "(JI)I" } : Jvm.MethodName)) ∈ gT := gT_of (tb_3 _ (List.mem_of_getElem? (i := 193) rfl)) rfl
theorem dL_law_942 : decode code 942 = .ok (.aload_n 2, 1) := by decide +kernel
theorem dL_law_943 : decode code 943 = .ok (.aload_n 0, 1) := by decide +kernel
theorem dL_law_944 : decode code 944 = .ok (.iload_n 3, 1) := by decide +kernel
theorem dL_law_945 : decode code 945 = .ok (.iconst 1, 1) := by decide +kernel
theorem dL_law_946 : decode code 946 = .ok (.iadd, 1) := by decide +kernel
theorem dL_law_947 : decode code 947 = .ok (.iaload, 1) := by decide +kernel
theorem dL_law_948 : decode code 948 = .ok (.i2l, 1) := by decide +kernel
theorem dL_law_949 : decode code 949 = .ok (.bipush 32, 2) := by decide +kernel
theorem dL_law_951 : decode code 951 = .ok (.lshl, 1) := by decide +kernel
theorem dL_law_952 : decode code 952 = .ok (.aload_n 0, 1) := by decide +kernel
theorem dL_law_953 : decode code 953 = .ok (.iload_n 3, 1) := by decide +kernel
theorem dL_law_954 : decode code 954 = .ok (.iconst 2, 1) := by decide +kernel
theorem dL_law_955 : decode code 955 = .ok (.iadd, 1) := by decide +kernel
theorem dL_law_956 : decode code 956 = .ok (.iaload, 1) := by decide +kernel
theorem dL_law_957 : decode code 957 = .ok (.i2l, 1) := by decide +kernel
theorem dL_law_958 : decode code 958 = .ok (.ldc2_w 73, 3) := by decide +kernel
theorem dL_law_961 : decode code 961 = .ok (.land, 1) := by decide +kernel
theorem dL_law_962 : decode code 962 = .ok (.lor, 1) := by decide +kernel
theorem dL_law_963 : decode code 963 = .ok (.aload_n 0, 1) := by decide +kernel
theorem dL_law_964 : decode code 964 = .ok (.iload_n 3, 1) := by decide +kernel
theorem dL_law_965 : decode code 965 = .ok (.iconst 3, 1) := by decide +kernel
theorem dL_law_966 : decode code 966 = .ok (.iadd, 1) := by decide +kernel
theorem dL_law_967 : decode code 967 = .ok (.iaload, 1) := by decide +kernel
theorem dL_law_968 : decode code 968 = .ok (.invokevirtual 79, 3) := by decide +kernel
theorem kw_6_227 : (Jvm.Cond.methodLink "ParishUnionLaw" (79 : Nat) ({ cls := "ParishUnionModel", name := "feed", desc := "(JI)I" } : Jvm.MethodName)) ∈ gT := gT_of (tb_6 _ (List.mem_of_getElem? (i := 227) rfl)) rfl
theorem kw_6_230 : (Jvm.Cond.code ({ cls := "ParishUnionModel", name := "feed", desc := "(JI)I" } : Jvm.MethodName) prog_14_method_34_code (5 : Nat) (Option.some Jvm.ClassFile.FieldType.int)) ∈ gT := gT_of (tb_6 _ (List.mem_of_getElem? (i := 230) rfl)) rfl
theorem okX12_feed : gQok yX12_feed cX12_feed 5 (Option.some Jvm.ClassFile.FieldType.int) 2 := ⟨kw_6_230, kw_1_13, by decide +kernel, by decide +kernel, by decide +kernel⟩
theorem kw_6_228 : (Jvm.Cond.instanceMethod ({ cls := "ParishUnionModel", name := "feed", desc := "(JI)I" } : Jvm.MethodName)) ∈ gT := gT_of (tb_6 _ (List.mem_of_getElem? (i := 228) rfl)) rfl
theorem kw_6_229 : (Jvm.Cond.selects "ParishUnionModel" ({ cls := "ParishUnionModel", name := "feed", desc := "(JI)I" } : Jvm.MethodName) ({ cls := "ParishUnionModel", name := "feed", desc := "(JI)I" } : Jvm.MethodName)) ∈ gT := gT_of (tb_6 _ (List.mem_of_getElem? (i := 229) rfl)) rfl
theorem dL_law_971 : decode code 971 = .ok (.if_icmp .eq 1021, 3) := by decide +kernel
set_option maxRecDepth 100000 in
set_option maxHeartbeats 4000000 in
theorem law_case_13 {p : Program} {e : Env} {s : State} {m : MethodId} {below : List Frame} {meth : Method} {c : Code} {l : Launch} {D : va_G} {cA : Nat → ClassId} {b : Nat} {xs : Nat → Int32} (X : gCx p s m #[Value.ref b] meth c s.heap.size D cA "ParishUnionLaw" code 4) (hr : meth.sig.returnType = ret) (hb : b < s.heap.size ∧ va_X b 7 xs s s.heap) {M : gM} (hFr : gFr M) : G p l e room_1 s m #[Value.ref b] below meth c s.heap.size D cA 4 (lw_Z below #[Value.ref b] s) 206 87467 M 206 913 [(3, gJ 0), (2, gA s.heap.size 190), (1, gA s.heap.size 0), (0, .ref b)] [] := by
  obtain ⟨f_0_0, f_0_1, f_0_2, f_0_3, f_0_4, f_0_5, f_0_6, f_0_7, f_0_8, f_0_9, f_1_0, f_1_1, f_1_2, f_1_3, f_1_4, f_1_5, f_1_6, f_1_7, f_1_8, f_1_9, f_1_10, f_1_11, f_1_12, f_1_13, f_1_14, f_1_15, f_2_0, f_2_1, f_5_0, f_7_0, f_9_0, f_9_1, f_9_2, f_9_3, f_9_4, f_9_5, f_15_0, f_15_1, f_15_2, f_15_3, f_15_4, f_15_5, f_15_6, f_15_7, f_15_8, f_15_9, f_23_0, f_23_1, f_26_0, f_26_1, f_26_2, f_26_3, f_87_0, f_87_1, f_87_2, f_87_3, f_87_4, f_153_0, f_153_1, f_153_2, f_153_3, f_153_4, f_159_0, f_190_0, f_190_1, f_190_2, f_190_3, f_190_4, f_190_5, f_190_6, f_190_7, f_190_8, f_190_9, f_190_10, f_190_11, f_190_12, f_190_13, f_190_14, f_190_15, f_190_16, f_190_17, f_190_18, f_190_19, f_190_20, f_190_21, f_190_22, f_190_23, rents, way, beds, frost0, rows0, rooms0, tape0, car0, hS⟩ := hFr
  obtain ⟨v0, e0, r0⟩ : ∃ z : Int, xs 0 = Int32.ofInt z ∧ -2147483648 ≤ z ∧ z ≤ 2147483647 := ⟨_, gi_of _, gi_rg _⟩
  obtain ⟨v1, e1, r1⟩ : ∃ z : Int, xs 1 = Int32.ofInt z ∧ -2147483648 ≤ z ∧ z ≤ 2147483647 := ⟨_, gi_of _, gi_rg _⟩
  obtain ⟨v2, e2, r2⟩ : ∃ z : Int, xs 2 = Int32.ofInt z ∧ -2147483648 ≤ z ∧ z ≤ 2147483647 := ⟨_, gi_of _, gi_rg _⟩
  obtain ⟨v3, e3, r3⟩ : ∃ z : Int, xs 3 = Int32.ofInt z ∧ -2147483648 ≤ z ∧ z ≤ 2147483647 := ⟨_, gi_of _, gi_rg _⟩
  obtain ⟨v4, e4, r4⟩ : ∃ z : Int, xs 4 = Int32.ofInt z ∧ -2147483648 ≤ z ∧ z ≤ 2147483647 := ⟨_, gi_of _, gi_rg _⟩
  obtain ⟨v5, e5, r5⟩ : ∃ z : Int, xs 5 = Int32.ofInt z ∧ -2147483648 ≤ z ∧ z ≤ 2147483647 := ⟨_, gi_of _, gi_rg _⟩
  obtain ⟨v6, e6, r6⟩ : ∃ z : Int, xs 6 = Int32.ofInt z ∧ -2147483648 ≤ z ∧ z ≤ 2147483647 := ⟨_, gi_of _, gi_rg _⟩
  refine g_aload_n (n := 914) X 2 dL_law_913 rfl rfl rfl ?_
  refine g_aload_n (n := 915) X 3 dL_law_914 rfl rfl rfl ?_
  refine g_iload_n (n := 916) X 0 dL_law_915 rfl rfl rfl ?_
  refine g_iconst (n := 917) X dL_law_916 rfl ?_
  refine g_iadd (n := 918) (z := 1) X dL_law_917 rfl rfl ?_
  refine g_scrld (n := 919) (z := v1) X hb (by omega) (by omega) (by omega) dL_law_918 rfl e1 ?_
  refine g_i2lE (n := 920) (z := ((Int32.ofInt v1).toInt64).toInt) X dL_law_919 (gl_of _) rfl ?_
  refine g_bipush (n := 922) X dL_law_920 (by decide +kernel) rfl ?_
  refine g_lshlE (n := 923) (z := (Int64.ofInt (((Int32.ofInt v1).toInt64).toInt) <<< ((Int32.ofInt 32).toInt64 &&& 63)).toInt) X dL_law_922 (gl_of _) rfl ?_
  refine g_aload_n (n := 924) X 3 dL_law_923 rfl rfl rfl ?_
  refine g_iload_n (n := 925) X 0 dL_law_924 rfl rfl rfl ?_
  refine g_iconst (n := 926) X dL_law_925 rfl ?_
  refine g_iadd (n := 927) (z := 2) X dL_law_926 rfl rfl ?_
  refine g_scrld (n := 928) (z := v2) X hb (by omega) (by omega) (by omega) dL_law_927 rfl e2 ?_
  refine g_i2lE (n := 929) (z := ((Int32.ofInt v2).toInt64).toInt) X dL_law_928 (gl_of _) rfl ?_
  refine g_ldc2 (n := 932) (z := 4294967295) X dL_law_929 kw_8_53 (by decide +kernel) rfl ?_
  refine g_landE (n := 933) (z := (Int64.ofInt (((Int32.ofInt v2).toInt64).toInt) &&& Int64.ofInt 4294967295).toInt) X dL_law_932 (gl_of _) rfl ?_
  refine g_lorE (n := 934) (z := (Int64.ofInt ((Int64.ofInt (((Int32.ofInt v1).toInt64).toInt) <<< ((Int32.ofInt 32).toInt64 &&& 63)).toInt) ||| Int64.ofInt ((Int64.ofInt (((Int32.ofInt v2).toInt64).toInt) &&& Int64.ofInt 4294967295).toInt)).toInt) X dL_law_933 (gl_of _) rfl ?_
  refine g_aload_n (n := 935) X 3 dL_law_934 rfl rfl rfl ?_
  refine g_iload_n (n := 936) X 0 dL_law_935 rfl rfl rfl ?_
  refine g_iconst (n := 937) X dL_law_936 rfl ?_
  refine g_iadd (n := 938) (z := 3) X dL_law_937 rfl rfl ?_
  refine g_scrld (n := 939) (z := v3) X hb (by omega) (by omega) (by omega) dL_law_938 rfl e3 ?_
  refine g_callVi (n := 942) (As := [gV ((Int64.ofInt ((Int64.ofInt (((Int32.ofInt v1).toInt64).toInt) <<< ((Int32.ofInt 32).toInt64 &&& 63)).toInt) ||| Int64.ofInt ((Int64.ofInt (((Int32.ofInt v2).toInt64).toInt) &&& Int64.ofInt 4294967295).toInt)).toInt), gJ v3]) (rest := []) (cs1 := 206) (ss1 := 87467) X (c_X11_feed ((Int64.ofInt ((Int64.ofInt (((Int32.ofInt v1).toInt64).toInt) <<< ((Int32.ofInt 32).toInt64 &&& 63)).toInt) ||| Int64.ofInt ((Int64.ofInt (((Int32.ofInt v2).toInt64).toInt) &&& Int64.ofInt 4294967295).toInt)).toInt) v3 (by omega) (by omega) (by omega) f_0_0 f_1_14 f_1_4) okX11_feed kw_3_191 ⟨kw_3_192, kw_3_193⟩ ⟨rfl, rfl⟩ ⟨Nat.le_of_ble_eq_true rfl, Nat.le_of_ble_eq_true rfl⟩ rfl (by omega) (by omega) lay_0 rfl rfl (Nat.le_of_ble_eq_true rfl) ⟨Nat.le_of_ble_eq_true rfl, Nat.le_of_ble_eq_true rfl⟩ rfl rfl dL_law_939 rfl (fun z1 M2 P3 => ?_)
  obtain ⟨P3, F4⟩ := P3
  refine g_aload_n (n := 943) X 1 dL_law_942 rfl rfl rfl ?_
  refine g_aload_n (n := 944) X 3 dL_law_943 rfl rfl rfl ?_
  refine g_iload_n (n := 945) X 0 dL_law_944 rfl rfl rfl ?_
  refine g_iconst (n := 946) X dL_law_945 rfl ?_
  refine g_iadd (n := 947) (z := 1) X dL_law_946 rfl rfl ?_
  refine g_scrld (n := 948) (z := v1) X hb (by omega) (by omega) (by omega) dL_law_947 rfl e1 ?_
  refine g_i2lE (n := 949) (z := ((Int32.ofInt v1).toInt64).toInt) X dL_law_948 (gl_of _) rfl ?_
  refine g_bipush (n := 951) X dL_law_949 (by decide +kernel) rfl ?_
  refine g_lshlE (n := 952) (z := (Int64.ofInt (((Int32.ofInt v1).toInt64).toInt) <<< ((Int32.ofInt 32).toInt64 &&& 63)).toInt) X dL_law_951 (gl_of _) rfl ?_
  refine g_aload_n (n := 953) X 3 dL_law_952 rfl rfl rfl ?_
  refine g_iload_n (n := 954) X 0 dL_law_953 rfl rfl rfl ?_
  refine g_iconst (n := 955) X dL_law_954 rfl ?_
  refine g_iadd (n := 956) (z := 2) X dL_law_955 rfl rfl ?_
  refine g_scrld (n := 957) (z := v2) X hb (by omega) (by omega) (by omega) dL_law_956 rfl e2 ?_
  refine g_i2lE (n := 958) (z := ((Int32.ofInt v2).toInt64).toInt) X dL_law_957 (gl_of _) rfl ?_
  refine g_ldc2 (n := 961) (z := 4294967295) X dL_law_958 kw_8_53 (by decide +kernel) rfl ?_
  refine g_landE (n := 962) (z := (Int64.ofInt (((Int32.ofInt v2).toInt64).toInt) &&& Int64.ofInt 4294967295).toInt) X dL_law_961 (gl_of _) rfl ?_
  refine g_lorE (n := 963) (z := (Int64.ofInt ((Int64.ofInt (((Int32.ofInt v1).toInt64).toInt) <<< ((Int32.ofInt 32).toInt64 &&& 63)).toInt) ||| Int64.ofInt ((Int64.ofInt (((Int32.ofInt v2).toInt64).toInt) &&& Int64.ofInt 4294967295).toInt)).toInt) X dL_law_962 (gl_of _) rfl ?_
  refine g_aload_n (n := 964) X 3 dL_law_963 rfl rfl rfl ?_
  refine g_iload_n (n := 965) X 0 dL_law_964 rfl rfl rfl ?_
  refine g_iconst (n := 966) X dL_law_965 rfl ?_
  refine g_iadd (n := 967) (z := 3) X dL_law_966 rfl rfl ?_
  refine g_scrld (n := 968) (z := v3) X hb (by omega) (by omega) (by omega) dL_law_967 rfl e3 ?_
  refine g_callVi (n := 971) (As := [gV ((Int64.ofInt ((Int64.ofInt (((Int32.ofInt v1).toInt64).toInt) <<< ((Int32.ofInt 32).toInt64 &&& 63)).toInt) ||| Int64.ofInt ((Int64.ofInt (((Int32.ofInt v2).toInt64).toInt) &&& Int64.ofInt 4294967295).toInt)).toInt), gJ v3]) (rest := [gJ z1]) (cs1 := 206) (ss1 := 87467) X (c_X12_feed ((Int64.ofInt ((Int64.ofInt (((Int32.ofInt v1).toInt64).toInt) <<< ((Int32.ofInt 32).toInt64 &&& 63)).toInt) ||| Int64.ofInt ((Int64.ofInt (((Int32.ofInt v2).toInt64).toInt) &&& Int64.ofInt 4294967295).toInt)).toInt) v3 (by omega) (by omega) (by omega) ((congrFun (F4 190 (by omega) (by omega)) _).trans f_190_1) ((congrFun (F4 191 (by omega) (by omega)) _).trans ((hS 10 (by omega) (by omega)).trans (by decide)))) okX12_feed kw_6_227 ⟨kw_6_228, kw_6_229⟩ ⟨rfl, rfl⟩ ⟨Nat.le_of_ble_eq_true rfl, Nat.le_of_ble_eq_true rfl⟩ rfl (by omega) (by omega) lay_190 rfl rfl (Nat.le_of_ble_eq_true rfl) ⟨Nat.le_of_ble_eq_true rfl, Nat.le_of_ble_eq_true rfl⟩ rfl rfl dL_law_968 rfl (fun z5 M6 P7 => ?_)
  obtain ⟨P7, F8⟩ := P7
  refine g_icmp_eq (n := 974) (tgt := 1992) X dL_law_971 (by decide) (by omega) (by omega) rfl (fun c9 => ?_) (fun c9 => by exfalso; omega)
  exact law_tail X hr hb (by omega) (by omega)
theorem dL_law_976 : decode code 976 = .ok (.aload_n 1, 1) := by decide +kernel
theorem dL_law_977 : decode code 977 = .ok (.aload_n 0, 1) := by decide +kernel
theorem dL_law_978 : decode code 978 = .ok (.iload_n 3, 1) := by decide +kernel
theorem dL_law_979 : decode code 979 = .ok (.iconst 1, 1) := by decide +kernel
theorem dL_law_980 : decode code 980 = .ok (.iadd, 1) := by decide +kernel
theorem dL_law_981 : decode code 981 = .ok (.iaload, 1) := by decide +kernel
theorem dL_law_982 : decode code 982 = .ok (.invokevirtual 80, 3) := by decide +kernel
theorem kw_3_195 : (Jvm.Cond.methodLink "ParishUnionLaw" (80 : Nat) ({ cls := "ParishUnion", name := "text", desc := "(I)I" } : Jvm.MethodName)) ∈ gT := gT_of (tb_3 _ (List.mem_of_getElem? (i := 195) rfl)) rfl
theorem kw_3_198 : (Jvm.Cond.code ({ cls := "ParishUnion", name := "text", desc := "(I)I" } : Jvm.MethodName) prog_1_method_16_code (3 : Nat) (Option.some Jvm.ClassFile.FieldType.int)) ∈ gT := gT_of (tb_3 _ (List.mem_of_getElem? (i := 198) rfl)) rfl
theorem okX11_text : gQok yX11_text cX11_text 3 (Option.some Jvm.ClassFile.FieldType.int) 1 := ⟨kw_3_198, kw_1_1, by decide +kernel, by decide +kernel, by decide +kernel⟩
theorem kw_3_196 : (Jvm.Cond.instanceMethod ({ cls := "ParishUnion", name := "text", desc := "(I)I" } : Jvm.MethodName)) ∈ gT := gT_of (tb_3 _ (List.mem_of_getElem? (i := 196) rfl)) rfl
theorem kw_3_197 : (Jvm.Cond.selects "ParishUnion" ({ cls := "ParishUnion", name := "text", desc := "(I)I" } : Jvm.MethodName) ({ cls := "ParishUnion", name := "text", desc := "(I)I" } : Jvm.MethodName)) ∈ gT := gT_of (tb_3 _ (List.mem_of_getElem? (i := 197) rfl)) rfl
theorem dL_law_985 : decode code 985 = .ok (.aload_n 2, 1) := by decide +kernel
theorem dL_law_986 : decode code 986 = .ok (.aload_n 0, 1) := by decide +kernel
theorem dL_law_987 : decode code 987 = .ok (.iload_n 3, 1) := by decide +kernel
theorem dL_law_988 : decode code 988 = .ok (.iconst 1, 1) := by decide +kernel
theorem dL_law_989 : decode code 989 = .ok (.iadd, 1) := by decide +kernel
theorem dL_law_990 : decode code 990 = .ok (.iaload, 1) := by decide +kernel
theorem dL_law_991 : decode code 991 = .ok (.invokevirtual 84, 3) := by decide +kernel
theorem kw_6_232 : (Jvm.Cond.methodLink "ParishUnionLaw" (84 : Nat) ({ cls := "ParishUnionModel", name := "text", desc := "(I)I" } : Jvm.MethodName)) ∈ gT := gT_of (tb_6 _ (List.mem_of_getElem? (i := 232) rfl)) rfl
theorem kw_6_235 : (Jvm.Cond.code ({ cls := "ParishUnionModel", name := "text", desc := "(I)I" } : Jvm.MethodName) prog_14_method_49_code (2 : Nat) (Option.some Jvm.ClassFile.FieldType.int)) ∈ gT := gT_of (tb_6 _ (List.mem_of_getElem? (i := 235) rfl)) rfl
theorem okX12_text : gQok yX12_text cX12_text 2 (Option.some Jvm.ClassFile.FieldType.int) 1 := ⟨kw_6_235, kw_1_13, by decide +kernel, by decide +kernel, by decide +kernel⟩
theorem kw_6_233 : (Jvm.Cond.instanceMethod ({ cls := "ParishUnionModel", name := "text", desc := "(I)I" } : Jvm.MethodName)) ∈ gT := gT_of (tb_6 _ (List.mem_of_getElem? (i := 233) rfl)) rfl
theorem kw_6_234 : (Jvm.Cond.selects "ParishUnionModel" ({ cls := "ParishUnionModel", name := "text", desc := "(I)I" } : Jvm.MethodName) ({ cls := "ParishUnionModel", name := "text", desc := "(I)I" } : Jvm.MethodName)) ∈ gT := gT_of (tb_6 _ (List.mem_of_getElem? (i := 234) rfl)) rfl
theorem dL_law_994 : decode code 994 = .ok (.if_icmp .eq 998, 3) := by decide +kernel
set_option maxRecDepth 100000 in
set_option maxHeartbeats 4000000 in
theorem law_case_14 {p : Program} {e : Env} {s : State} {m : MethodId} {below : List Frame} {meth : Method} {c : Code} {l : Launch} {D : va_G} {cA : Nat → ClassId} {b : Nat} {xs : Nat → Int32} (X : gCx p s m #[Value.ref b] meth c s.heap.size D cA "ParishUnionLaw" code 4) (hr : meth.sig.returnType = ret) (hb : b < s.heap.size ∧ va_X b 7 xs s s.heap) {M : gM} (hFr : gFr M) : G p l e room_1 s m #[Value.ref b] below meth c s.heap.size D cA 4 (lw_Z below #[Value.ref b] s) 206 87467 M 206 976 [(3, gJ 0), (2, gA s.heap.size 190), (1, gA s.heap.size 0), (0, .ref b)] [] := by
  obtain ⟨f_0_0, f_0_1, f_0_2, f_0_3, f_0_4, f_0_5, f_0_6, f_0_7, f_0_8, f_0_9, f_1_0, f_1_1, f_1_2, f_1_3, f_1_4, f_1_5, f_1_6, f_1_7, f_1_8, f_1_9, f_1_10, f_1_11, f_1_12, f_1_13, f_1_14, f_1_15, f_2_0, f_2_1, f_5_0, f_7_0, f_9_0, f_9_1, f_9_2, f_9_3, f_9_4, f_9_5, f_15_0, f_15_1, f_15_2, f_15_3, f_15_4, f_15_5, f_15_6, f_15_7, f_15_8, f_15_9, f_23_0, f_23_1, f_26_0, f_26_1, f_26_2, f_26_3, f_87_0, f_87_1, f_87_2, f_87_3, f_87_4, f_153_0, f_153_1, f_153_2, f_153_3, f_153_4, f_159_0, f_190_0, f_190_1, f_190_2, f_190_3, f_190_4, f_190_5, f_190_6, f_190_7, f_190_8, f_190_9, f_190_10, f_190_11, f_190_12, f_190_13, f_190_14, f_190_15, f_190_16, f_190_17, f_190_18, f_190_19, f_190_20, f_190_21, f_190_22, f_190_23, rents, way, beds, frost0, rows0, rooms0, tape0, car0, hS⟩ := hFr
  obtain ⟨v0, e0, r0⟩ : ∃ z : Int, xs 0 = Int32.ofInt z ∧ -2147483648 ≤ z ∧ z ≤ 2147483647 := ⟨_, gi_of _, gi_rg _⟩
  obtain ⟨v1, e1, r1⟩ : ∃ z : Int, xs 1 = Int32.ofInt z ∧ -2147483648 ≤ z ∧ z ≤ 2147483647 := ⟨_, gi_of _, gi_rg _⟩
  obtain ⟨v2, e2, r2⟩ : ∃ z : Int, xs 2 = Int32.ofInt z ∧ -2147483648 ≤ z ∧ z ≤ 2147483647 := ⟨_, gi_of _, gi_rg _⟩
  obtain ⟨v3, e3, r3⟩ : ∃ z : Int, xs 3 = Int32.ofInt z ∧ -2147483648 ≤ z ∧ z ≤ 2147483647 := ⟨_, gi_of _, gi_rg _⟩
  obtain ⟨v4, e4, r4⟩ : ∃ z : Int, xs 4 = Int32.ofInt z ∧ -2147483648 ≤ z ∧ z ≤ 2147483647 := ⟨_, gi_of _, gi_rg _⟩
  obtain ⟨v5, e5, r5⟩ : ∃ z : Int, xs 5 = Int32.ofInt z ∧ -2147483648 ≤ z ∧ z ≤ 2147483647 := ⟨_, gi_of _, gi_rg _⟩
  obtain ⟨v6, e6, r6⟩ : ∃ z : Int, xs 6 = Int32.ofInt z ∧ -2147483648 ≤ z ∧ z ≤ 2147483647 := ⟨_, gi_of _, gi_rg _⟩
  refine g_aload_n (n := 977) X 2 dL_law_976 rfl rfl rfl ?_
  refine g_aload_n (n := 978) X 3 dL_law_977 rfl rfl rfl ?_
  refine g_iload_n (n := 979) X 0 dL_law_978 rfl rfl rfl ?_
  refine g_iconst (n := 980) X dL_law_979 rfl ?_
  refine g_iadd (n := 981) (z := 1) X dL_law_980 rfl rfl ?_
  refine g_scrld (n := 982) (z := v1) X hb (by omega) (by omega) (by omega) dL_law_981 rfl e1 ?_
  refine g_callVi (n := 985) (As := [gJ v1]) (rest := []) (cs1 := 206) (ss1 := 87467) X (c_X11_text v1 (by omega) (by omega) f_0_0 f_1_3 f_1_13 f_7_0 f_1_4 f_1_14 f_0_2 f_87_0 f_87_1) okX11_text kw_3_195 ⟨kw_3_196, kw_3_197⟩ ⟨rfl, rfl⟩ ⟨Nat.le_of_ble_eq_true rfl, Nat.le_of_ble_eq_true rfl⟩ rfl (by omega) (by omega) lay_0 rfl rfl (Nat.le_of_ble_eq_true rfl) ⟨Nat.le_of_ble_eq_true rfl, Nat.le_of_ble_eq_true rfl⟩ rfl rfl dL_law_982 rfl (fun z1 M2 P3 => ?_)
  obtain ⟨P3, F4⟩ := P3
  refine g_aload_n (n := 986) X 1 dL_law_985 rfl rfl rfl ?_
  refine g_aload_n (n := 987) X 3 dL_law_986 rfl rfl rfl ?_
  refine g_iload_n (n := 988) X 0 dL_law_987 rfl rfl rfl ?_
  refine g_iconst (n := 989) X dL_law_988 rfl ?_
  refine g_iadd (n := 990) (z := 1) X dL_law_989 rfl rfl ?_
  refine g_scrld (n := 991) (z := v1) X hb (by omega) (by omega) (by omega) dL_law_990 rfl e1 ?_
  refine g_callVi (n := 994) (As := [gJ v1]) (rest := [gJ z1]) (cs1 := 206) (ss1 := 87467) X (c_X12_text v1 (by omega) (by omega) ((congrFun (F4 190 (by omega) (by omega) (by omega) (by omega) (by omega) (by omega)) _).trans f_190_1) ((congrFun (F4 191 (by omega) (by omega) (by omega) (by omega) (by omega) (by omega)) _).trans ((hS 4 (by omega) (by omega)).trans (by decide))) ((congrFun (F4 191 (by omega) (by omega) (by omega) (by omega) (by omega) (by omega)) _).trans ((hS 10 (by omega) (by omega)).trans (by decide)))) okX12_text kw_6_232 ⟨kw_6_233, kw_6_234⟩ ⟨rfl, rfl⟩ ⟨Nat.le_of_ble_eq_true rfl, Nat.le_of_ble_eq_true rfl⟩ rfl (by omega) (by omega) lay_190 rfl rfl (Nat.le_of_ble_eq_true rfl) ⟨Nat.le_of_ble_eq_true rfl, Nat.le_of_ble_eq_true rfl⟩ rfl rfl dL_law_991 rfl (fun z5 M6 P7 => ?_)
  obtain ⟨P7, F8⟩ := P7
  refine g_icmp_eq (n := 997) (tgt := 1992) X dL_law_994 (by decide) (by omega) (by omega) rfl (fun c9 => ?_) (fun c9 => by exfalso; omega)
  exact law_tail X hr hb (by omega) (by omega)
theorem dL_law_999 : decode code 999 = .ok (.aload_n 1, 1) := by decide +kernel
theorem dL_law_1000 : decode code 1000 = .ok (.aload_n 0, 1) := by decide +kernel
theorem dL_law_1001 : decode code 1001 = .ok (.iload_n 3, 1) := by decide +kernel
theorem dL_law_1002 : decode code 1002 = .ok (.iconst 1, 1) := by decide +kernel
theorem dL_law_1003 : decode code 1003 = .ok (.iadd, 1) := by decide +kernel
theorem dL_law_1004 : decode code 1004 = .ok (.iaload, 1) := by decide +kernel
theorem dL_law_1005 : decode code 1005 = .ok (.aload_n 0, 1) := by decide +kernel
theorem dL_law_1006 : decode code 1006 = .ok (.iload_n 3, 1) := by decide +kernel
theorem dL_law_1007 : decode code 1007 = .ok (.iconst 2, 1) := by decide +kernel
theorem dL_law_1008 : decode code 1008 = .ok (.iadd, 1) := by decide +kernel
theorem dL_law_1009 : decode code 1009 = .ok (.iaload, 1) := by decide +kernel
theorem dL_law_1010 : decode code 1010 = .ok (.invokevirtual 85, 3) := by decide +kernel
theorem kw_4_87 : (Jvm.Cond.methodLink "ParishUnionLaw" (85 : Nat) ({ cls := "ParishUnion", name := "force", desc := "(II)I" } : Jvm.MethodName)) ∈ gT := gT_of (tb_4 _ (List.mem_of_getElem? (i := 87) rfl)) rfl
theorem kw_4_90 : (Jvm.Cond.code ({ cls := "ParishUnion", name := "force", desc := "(II)I" } : Jvm.MethodName) prog_1_method_17_code (3 : Nat) (Option.some Jvm.ClassFile.FieldType.int)) ∈ gT := gT_of (tb_4 _ (List.mem_of_getElem? (i := 90) rfl)) rfl
theorem okX11_force : gQok yX11_force cX11_force 3 (Option.some Jvm.ClassFile.FieldType.int) 2 := ⟨kw_4_90, kw_1_1, by decide +kernel, by decide +kernel, by decide +kernel⟩
theorem kw_4_88 : (Jvm.Cond.instanceMethod ({ cls := "ParishUnion", name := "force", desc := "(II)I" } : Jvm.MethodName)) ∈ gT := gT_of (tb_4 _ (List.mem_of_getElem? (i := 88) rfl)) rfl
theorem kw_4_89 : (Jvm.Cond.selects "ParishUnion" ({ cls := "ParishUnion", name := "force", desc := "(II)I" } : Jvm.MethodName) ({ cls := "ParishUnion", name := "force", desc := "(II)I" } : Jvm.MethodName)) ∈ gT := gT_of (tb_4 _ (List.mem_of_getElem? (i := 89) rfl)) rfl
theorem dL_law_1013 : decode code 1013 = .ok (.aload_n 2, 1) := by decide +kernel
theorem dL_law_1014 : decode code 1014 = .ok (.aload_n 0, 1) := by decide +kernel
theorem dL_law_1015 : decode code 1015 = .ok (.iload_n 3, 1) := by decide +kernel
theorem dL_law_1016 : decode code 1016 = .ok (.iconst 1, 1) := by decide +kernel
theorem dL_law_1017 : decode code 1017 = .ok (.iadd, 1) := by decide +kernel
theorem dL_law_1018 : decode code 1018 = .ok (.iaload, 1) := by decide +kernel
theorem dL_law_1019 : decode code 1019 = .ok (.aload_n 0, 1) := by decide +kernel
theorem dL_law_1020 : decode code 1020 = .ok (.iload_n 3, 1) := by decide +kernel
theorem dL_law_1021 : decode code 1021 = .ok (.iconst 2, 1) := by decide +kernel
theorem dL_law_1022 : decode code 1022 = .ok (.iadd, 1) := by decide +kernel
theorem dL_law_1023 : decode code 1023 = .ok (.iaload, 1) := by decide +kernel
theorem dL_law_1024 : decode code 1024 = .ok (.invokevirtual 88, 3) := by decide +kernel
theorem kw_7_70 : (Jvm.Cond.methodLink "ParishUnionLaw" (88 : Nat) ({ cls := "ParishUnionModel", name := "force", desc := "(II)I" } : Jvm.MethodName)) ∈ gT := gT_of (tb_7 _ (List.mem_of_getElem? (i := 70) rfl)) rfl
theorem kw_7_73 : (Jvm.Cond.code ({ cls := "ParishUnionModel", name := "force", desc := "(II)I" } : Jvm.MethodName) prog_14_method_55_code (3 : Nat) (Option.some Jvm.ClassFile.FieldType.int)) ∈ gT := gT_of (tb_7 _ (List.mem_of_getElem? (i := 73) rfl)) rfl
theorem okX12_force : gQok yX12_force cX12_force 3 (Option.some Jvm.ClassFile.FieldType.int) 2 := ⟨kw_7_73, kw_1_13, by decide +kernel, by decide +kernel, by decide +kernel⟩
theorem kw_7_71 : (Jvm.Cond.instanceMethod ({ cls := "ParishUnionModel", name := "force", desc := "(II)I" } : Jvm.MethodName)) ∈ gT := gT_of (tb_7 _ (List.mem_of_getElem? (i := 71) rfl)) rfl
theorem kw_7_72 : (Jvm.Cond.selects "ParishUnionModel" ({ cls := "ParishUnionModel", name := "force", desc := "(II)I" } : Jvm.MethodName) ({ cls := "ParishUnionModel", name := "force", desc := "(II)I" } : Jvm.MethodName)) ∈ gT := gT_of (tb_7 _ (List.mem_of_getElem? (i := 72) rfl)) rfl
theorem dL_law_1027 : decode code 1027 = .ok (.if_icmp .eq 965, 3) := by decide +kernel
set_option maxRecDepth 100000 in
set_option maxHeartbeats 4000000 in
theorem law_case_15 {p : Program} {e : Env} {s : State} {m : MethodId} {below : List Frame} {meth : Method} {c : Code} {l : Launch} {D : va_G} {cA : Nat → ClassId} {b : Nat} {xs : Nat → Int32} (X : gCx p s m #[Value.ref b] meth c s.heap.size D cA "ParishUnionLaw" code 4) (hr : meth.sig.returnType = ret) (hb : b < s.heap.size ∧ va_X b 7 xs s s.heap) {M : gM} (hFr : gFr M) : G p l e room_1 s m #[Value.ref b] below meth c s.heap.size D cA 4 (lw_Z below #[Value.ref b] s) 206 87467 M 206 999 [(3, gJ 0), (2, gA s.heap.size 190), (1, gA s.heap.size 0), (0, .ref b)] [] := by
  obtain ⟨f_0_0, f_0_1, f_0_2, f_0_3, f_0_4, f_0_5, f_0_6, f_0_7, f_0_8, f_0_9, f_1_0, f_1_1, f_1_2, f_1_3, f_1_4, f_1_5, f_1_6, f_1_7, f_1_8, f_1_9, f_1_10, f_1_11, f_1_12, f_1_13, f_1_14, f_1_15, f_2_0, f_2_1, f_5_0, f_7_0, f_9_0, f_9_1, f_9_2, f_9_3, f_9_4, f_9_5, f_15_0, f_15_1, f_15_2, f_15_3, f_15_4, f_15_5, f_15_6, f_15_7, f_15_8, f_15_9, f_23_0, f_23_1, f_26_0, f_26_1, f_26_2, f_26_3, f_87_0, f_87_1, f_87_2, f_87_3, f_87_4, f_153_0, f_153_1, f_153_2, f_153_3, f_153_4, f_159_0, f_190_0, f_190_1, f_190_2, f_190_3, f_190_4, f_190_5, f_190_6, f_190_7, f_190_8, f_190_9, f_190_10, f_190_11, f_190_12, f_190_13, f_190_14, f_190_15, f_190_16, f_190_17, f_190_18, f_190_19, f_190_20, f_190_21, f_190_22, f_190_23, rents, way, beds, frost0, rows0, rooms0, tape0, car0, hS⟩ := hFr
  obtain ⟨v0, e0, r0⟩ : ∃ z : Int, xs 0 = Int32.ofInt z ∧ -2147483648 ≤ z ∧ z ≤ 2147483647 := ⟨_, gi_of _, gi_rg _⟩
  obtain ⟨v1, e1, r1⟩ : ∃ z : Int, xs 1 = Int32.ofInt z ∧ -2147483648 ≤ z ∧ z ≤ 2147483647 := ⟨_, gi_of _, gi_rg _⟩
  obtain ⟨v2, e2, r2⟩ : ∃ z : Int, xs 2 = Int32.ofInt z ∧ -2147483648 ≤ z ∧ z ≤ 2147483647 := ⟨_, gi_of _, gi_rg _⟩
  obtain ⟨v3, e3, r3⟩ : ∃ z : Int, xs 3 = Int32.ofInt z ∧ -2147483648 ≤ z ∧ z ≤ 2147483647 := ⟨_, gi_of _, gi_rg _⟩
  obtain ⟨v4, e4, r4⟩ : ∃ z : Int, xs 4 = Int32.ofInt z ∧ -2147483648 ≤ z ∧ z ≤ 2147483647 := ⟨_, gi_of _, gi_rg _⟩
  obtain ⟨v5, e5, r5⟩ : ∃ z : Int, xs 5 = Int32.ofInt z ∧ -2147483648 ≤ z ∧ z ≤ 2147483647 := ⟨_, gi_of _, gi_rg _⟩
  obtain ⟨v6, e6, r6⟩ : ∃ z : Int, xs 6 = Int32.ofInt z ∧ -2147483648 ≤ z ∧ z ≤ 2147483647 := ⟨_, gi_of _, gi_rg _⟩
  refine g_aload_n (n := 1000) X 2 dL_law_999 rfl rfl rfl ?_
  refine g_aload_n (n := 1001) X 3 dL_law_1000 rfl rfl rfl ?_
  refine g_iload_n (n := 1002) X 0 dL_law_1001 rfl rfl rfl ?_
  refine g_iconst (n := 1003) X dL_law_1002 rfl ?_
  refine g_iadd (n := 1004) (z := 1) X dL_law_1003 rfl rfl ?_
  refine g_scrld (n := 1005) (z := v1) X hb (by omega) (by omega) (by omega) dL_law_1004 rfl e1 ?_
  refine g_aload_n (n := 1006) X 3 dL_law_1005 rfl rfl rfl ?_
  refine g_iload_n (n := 1007) X 0 dL_law_1006 rfl rfl rfl ?_
  refine g_iconst (n := 1008) X dL_law_1007 rfl ?_
  refine g_iadd (n := 1009) (z := 2) X dL_law_1008 rfl rfl ?_
  refine g_scrld (n := 1010) (z := v2) X hb (by omega) (by omega) (by omega) dL_law_1009 rfl e2 ?_
  refine g_callVi (n := 1013) (As := [gJ v1, gJ v2]) (rest := []) (cs1 := 206) (ss1 := 87467) X (c_X11_force v1 v2 (by omega) (by omega) (by omega) f_0_0 f_1_13) okX11_force kw_4_87 ⟨kw_4_88, kw_4_89⟩ ⟨rfl, rfl⟩ ⟨Nat.le_of_ble_eq_true rfl, Nat.le_of_ble_eq_true rfl⟩ rfl (by omega) (by omega) lay_0 rfl rfl (Nat.le_of_ble_eq_true rfl) ⟨Nat.le_of_ble_eq_true rfl, Nat.le_of_ble_eq_true rfl⟩ rfl rfl dL_law_1010 rfl (fun z1 M2 P3 => ?_)
  obtain ⟨P3, F4⟩ := P3
  refine g_aload_n (n := 1014) X 1 dL_law_1013 rfl rfl rfl ?_
  refine g_aload_n (n := 1015) X 3 dL_law_1014 rfl rfl rfl ?_
  refine g_iload_n (n := 1016) X 0 dL_law_1015 rfl rfl rfl ?_
  refine g_iconst (n := 1017) X dL_law_1016 rfl ?_
  refine g_iadd (n := 1018) (z := 1) X dL_law_1017 rfl rfl ?_
  refine g_scrld (n := 1019) (z := v1) X hb (by omega) (by omega) (by omega) dL_law_1018 rfl e1 ?_
  refine g_aload_n (n := 1020) X 3 dL_law_1019 rfl rfl rfl ?_
  refine g_iload_n (n := 1021) X 0 dL_law_1020 rfl rfl rfl ?_
  refine g_iconst (n := 1022) X dL_law_1021 rfl ?_
  refine g_iadd (n := 1023) (z := 2) X dL_law_1022 rfl rfl ?_
  refine g_scrld (n := 1024) (z := v2) X hb (by omega) (by omega) (by omega) dL_law_1023 rfl e2 ?_
  refine g_callVi (n := 1027) (As := [gJ v1, gJ v2]) (rest := [gJ z1]) (cs1 := 206) (ss1 := 87467) X (c_X12_force v1 v2 (by omega) (by omega) (by omega) ((congrFun (F4 190) _).trans f_190_1) ((congrFun (F4 191) _).trans ((hS 4 (by omega) (by omega)).trans (by decide)))) okX12_force kw_7_70 ⟨kw_7_71, kw_7_72⟩ ⟨rfl, rfl⟩ ⟨Nat.le_of_ble_eq_true rfl, Nat.le_of_ble_eq_true rfl⟩ rfl (by omega) (by omega) lay_190 rfl rfl (Nat.le_of_ble_eq_true rfl) ⟨Nat.le_of_ble_eq_true rfl, Nat.le_of_ble_eq_true rfl⟩ rfl rfl dL_law_1024 rfl (fun z5 M6 P7 => ?_)
  obtain ⟨P7, F8⟩ := P7
  refine g_icmp_eq (n := 1030) (tgt := 1992) X dL_law_1027 (by decide) (by omega) (by omega) rfl (fun c9 => ?_) (fun c9 => by exfalso; omega)
  exact law_tail X hr hb (by omega) (by omega)
