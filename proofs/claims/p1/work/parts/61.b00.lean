theorem dL_law_232 : decode code 232 = .ok (.aload_n 1, 1) := by decide +kernel
theorem dL_law_233 : decode code 233 = .ok (.aload_n 0, 1) := by decide +kernel
theorem dL_law_234 : decode code 234 = .ok (.iload_n 3, 1) := by decide +kernel
theorem dL_law_235 : decode code 235 = .ok (.iconst 1, 1) := by decide +kernel
theorem dL_law_236 : decode code 236 = .ok (.iadd, 1) := by decide +kernel
theorem dL_law_237 : decode code 237 = .ok (.iaload, 1) := by decide +kernel
theorem dL_law_238 : decode code 238 = .ok (.aload_n 0, 1) := by decide +kernel
theorem dL_law_239 : decode code 239 = .ok (.iload_n 3, 1) := by decide +kernel
theorem dL_law_240 : decode code 240 = .ok (.iconst 2, 1) := by decide +kernel
theorem dL_law_241 : decode code 241 = .ok (.iadd, 1) := by decide +kernel
theorem dL_law_242 : decode code 242 = .ok (.iaload, 1) := by decide +kernel
theorem dL_law_243 : decode code 243 = .ok (.invokevirtual 13, 3) := by decide +kernel
theorem kw_3_22 : (Jvm.Cond.methodLink "ParishUnionLaw" (13 : Nat) ({ cls := "ParishUnion", name := "parish", desc := "(II)I" } : Jvm.MethodName)) ∈ gT := gT_of (tb_3 _ (List.mem_of_getElem? (i := 22) rfl)) rfl
theorem kw_3_25 : (Jvm.Cond.code ({ cls := "ParishUnion", name := "parish", desc := "(II)I" } : Jvm.MethodName) prog_1_method_2_code (4 : Nat) (Option.some Jvm.ClassFile.FieldType.int)) ∈ gT := gT_of (tb_3 _ (List.mem_of_getElem? (i := 25) rfl)) rfl
theorem okX11_parish : gQok yX11_parish cX11_parish 4 (Option.some Jvm.ClassFile.FieldType.int) 2 := ⟨kw_3_25, kw_1_1, by decide +kernel, by decide +kernel, by decide +kernel⟩
theorem kw_3_23 : (Jvm.Cond.instanceMethod ({ cls := "ParishUnion", name := "parish", desc := "(II)I" } : Jvm.MethodName)) ∈ gT := gT_of (tb_3 _ (List.mem_of_getElem? (i := 23) rfl)) rfl
theorem kw_3_24 : (Jvm.Cond.selects "ParishUnion" ({ cls := "ParishUnion", name := "parish", desc := "(II)I" } : Jvm.MethodName) ({ cls := "ParishUnion", name := "parish", desc := "(II)I" } : Jvm.MethodName)) ∈ gT := gT_of (tb_3 _ (List.mem_of_getElem? (i := 24) rfl)) rfl
theorem dL_law_246 : decode code 246 = .ok (.aload_n 2, 1) := by decide +kernel
theorem dL_law_247 : decode code 247 = .ok (.aload_n 0, 1) := by decide +kernel
theorem dL_law_248 : decode code 248 = .ok (.iload_n 3, 1) := by decide +kernel
theorem dL_law_249 : decode code 249 = .ok (.iconst 1, 1) := by decide +kernel
theorem dL_law_250 : decode code 250 = .ok (.iadd, 1) := by decide +kernel
theorem dL_law_251 : decode code 251 = .ok (.iaload, 1) := by decide +kernel
theorem dL_law_252 : decode code 252 = .ok (.aload_n 0, 1) := by decide +kernel
theorem dL_law_253 : decode code 253 = .ok (.iload_n 3, 1) := by decide +kernel
theorem dL_law_254 : decode code 254 = .ok (.iconst 2, 1) := by decide +kernel
theorem dL_law_255 : decode code 255 = .ok (.iadd, 1) := by decide +kernel
theorem dL_law_256 : decode code 256 = .ok (.iaload, 1) := by decide +kernel
theorem dL_law_257 : decode code 257 = .ok (.invokevirtual 17, 3) := by decide +kernel
theorem kw_6_99 : (Jvm.Cond.methodLink "ParishUnionLaw" (17 : Nat) ({ cls := "ParishUnionModel", name := "parish", desc := "(II)I" } : Jvm.MethodName)) ∈ gT := gT_of (tb_6 _ (List.mem_of_getElem? (i := 99) rfl)) rfl
theorem kw_6_102 : (Jvm.Cond.code ({ cls := "ParishUnionModel", name := "parish", desc := "(II)I" } : Jvm.MethodName) prog_14_method_9_code (4 : Nat) (Option.some Jvm.ClassFile.FieldType.int)) ∈ gT := gT_of (tb_6 _ (List.mem_of_getElem? (i := 102) rfl)) rfl
theorem okX12_parish : gQok yX12_parish cX12_parish 4 (Option.some Jvm.ClassFile.FieldType.int) 2 := ⟨kw_6_102, kw_1_13, by decide +kernel, by decide +kernel, by decide +kernel⟩
theorem kw_6_100 : (Jvm.Cond.instanceMethod ({ cls := "ParishUnionModel", name := "parish", desc := "(II)I" } : Jvm.MethodName)) ∈ gT := gT_of (tb_6 _ (List.mem_of_getElem? (i := 100) rfl)) rfl
theorem kw_6_101 : (Jvm.Cond.selects "ParishUnionModel" ({ cls := "ParishUnionModel", name := "parish", desc := "(II)I" } : Jvm.MethodName) ({ cls := "ParishUnionModel", name := "parish", desc := "(II)I" } : Jvm.MethodName)) ∈ gT := gT_of (tb_6 _ (List.mem_of_getElem? (i := 101) rfl)) rfl
theorem dL_law_260 : decode code 260 = .ok (.if_icmp .eq 1732, 3) := by decide +kernel
set_option maxRecDepth 100000 in
set_option maxHeartbeats 4000000 in
theorem law_case_0 {p : Program} {e : Env} {s : State} {m : MethodId} {below : List Frame} {meth : Method} {c : Code} {l : Launch} {D : va_G} {cA : Nat → ClassId} {b : Nat} {xs : Nat → Int32} (X : gCx p s m #[Value.ref b] meth c s.heap.size D cA "ParishUnionLaw" code 4) (hr : meth.sig.returnType = ret) (hb : b < s.heap.size ∧ va_X b 7 xs s s.heap) {M : gM} (hFr : gFr M) : G p l e room_1 s m #[Value.ref b] below meth c s.heap.size D cA 4 (lw_Z below #[Value.ref b] s) 206 87467 M 206 232 [(3, gJ 0), (2, gA s.heap.size 190), (1, gA s.heap.size 0), (0, .ref b)] [] := by
  have rents := gFr_rents hFr
  have way := gFr_way hFr
  have beds := gFr_beds hFr
  have frost0 := gFr_frost0 hFr
  have rows0 := gFr_rows0 hFr
  have rooms0 := gFr_rooms0 hFr
  have tape0 := gFr_tape0 hFr
  have car0 := gFr_car0 hFr
  have hS := gFr_hS hFr
  obtain ⟨v0, e0, r0⟩ : ∃ z : Int, xs 0 = Int32.ofInt z ∧ -2147483648 ≤ z ∧ z ≤ 2147483647 := ⟨_, gi_of _, gi_rg _⟩
  obtain ⟨v1, e1, r1⟩ : ∃ z : Int, xs 1 = Int32.ofInt z ∧ -2147483648 ≤ z ∧ z ≤ 2147483647 := ⟨_, gi_of _, gi_rg _⟩
  obtain ⟨v2, e2, r2⟩ : ∃ z : Int, xs 2 = Int32.ofInt z ∧ -2147483648 ≤ z ∧ z ≤ 2147483647 := ⟨_, gi_of _, gi_rg _⟩
  obtain ⟨v3, e3, r3⟩ : ∃ z : Int, xs 3 = Int32.ofInt z ∧ -2147483648 ≤ z ∧ z ≤ 2147483647 := ⟨_, gi_of _, gi_rg _⟩
  obtain ⟨v4, e4, r4⟩ : ∃ z : Int, xs 4 = Int32.ofInt z ∧ -2147483648 ≤ z ∧ z ≤ 2147483647 := ⟨_, gi_of _, gi_rg _⟩
  obtain ⟨v5, e5, r5⟩ : ∃ z : Int, xs 5 = Int32.ofInt z ∧ -2147483648 ≤ z ∧ z ≤ 2147483647 := ⟨_, gi_of _, gi_rg _⟩
  obtain ⟨v6, e6, r6⟩ : ∃ z : Int, xs 6 = Int32.ofInt z ∧ -2147483648 ≤ z ∧ z ≤ 2147483647 := ⟨_, gi_of _, gi_rg _⟩
  refine g_aload_n (n := 233) X 2 dL_law_232 rfl rfl rfl ?_
  refine g_aload_n (n := 234) X 3 dL_law_233 rfl rfl rfl ?_
  refine g_iload_n (n := 235) X 0 dL_law_234 rfl rfl rfl ?_
  refine g_iconst (n := 236) X dL_law_235 rfl ?_
  refine g_iadd (n := 237) (z := 1) X dL_law_236 rfl rfl ?_
  refine g_scrld (n := 238) (z := v1) X hb (by omega) (by omega) (by omega) dL_law_237 rfl e1 ?_
  refine g_aload_n (n := 239) X 3 dL_law_238 rfl rfl rfl ?_
  refine g_iload_n (n := 240) X 0 dL_law_239 rfl rfl rfl ?_
  refine g_iconst (n := 241) X dL_law_240 rfl ?_
  refine g_iadd (n := 242) (z := 2) X dL_law_241 rfl rfl ?_
  refine g_scrld (n := 243) (z := v2) X hb (by omega) (by omega) (by omega) dL_law_242 rfl e2 ?_
  refine g_callVi (n := 246) (As := [gJ v1, gJ v2]) (rest := []) (cs1 := 206) (ss1 := 87467) X (c_X11_parish v1 v2 (by omega) (by omega) (by omega) (gFr_0_0 hFr) (gFr_1_0 hFr) (gFr_2_0 hFr) rents) okX11_parish kw_3_22 ⟨kw_3_23, kw_3_24⟩ ⟨rfl, rfl⟩ ⟨Nat.le_of_ble_eq_true rfl, Nat.le_of_ble_eq_true rfl⟩ rfl (by omega) (by omega) lay_0 rfl rfl (Nat.le_of_ble_eq_true rfl) ⟨Nat.le_of_ble_eq_true rfl, Nat.le_of_ble_eq_true rfl⟩ rfl rfl dL_law_243 rfl (fun z1 M2 P3 => ?_)
  obtain ⟨P3, F4⟩ := P3
  refine g_aload_n (n := 247) X 1 dL_law_246 rfl rfl rfl ?_
  refine g_aload_n (n := 248) X 3 dL_law_247 rfl rfl rfl ?_
  refine g_iload_n (n := 249) X 0 dL_law_248 rfl rfl rfl ?_
  refine g_iconst (n := 250) X dL_law_249 rfl ?_
  refine g_iadd (n := 251) (z := 1) X dL_law_250 rfl rfl ?_
  refine g_scrld (n := 252) (z := v1) X hb (by omega) (by omega) (by omega) dL_law_251 rfl e1 ?_
  refine g_aload_n (n := 253) X 3 dL_law_252 rfl rfl rfl ?_
  refine g_iload_n (n := 254) X 0 dL_law_253 rfl rfl rfl ?_
  refine g_iconst (n := 255) X dL_law_254 rfl ?_
  refine g_iadd (n := 256) (z := 2) X dL_law_255 rfl rfl ?_
  refine g_scrld (n := 257) (z := v2) X hb (by omega) (by omega) (by omega) dL_law_256 rfl e2 ?_
  refine g_callVi (n := 260) (As := [gJ v1, gJ v2]) (rest := [gJ z1]) (cs1 := 206) (ss1 := 87467) X (c_X12_parish v1 v2 (by omega) (by omega) (by omega) ((congrFun (F4 190 (by omega)) _).trans (gFr_190_1 hFr)) (fun i h0 h1 => (congrFun ((F4 191 (by omega)).trans rfl) i).trans (hS i h0 h1))) okX12_parish kw_6_99 ⟨kw_6_100, kw_6_101⟩ ⟨rfl, rfl⟩ ⟨Nat.le_of_ble_eq_true rfl, Nat.le_of_ble_eq_true rfl⟩ rfl (by omega) (by omega) lay_190 rfl rfl (Nat.le_of_ble_eq_true rfl) ⟨Nat.le_of_ble_eq_true rfl, Nat.le_of_ble_eq_true rfl⟩ rfl rfl dL_law_257 rfl (fun z5 M6 P7 => ?_)
  obtain ⟨P7, F8⟩ := P7
  refine g_icmp_eq (n := 263) (tgt := 1992) X dL_law_260 (by decide) (by omega) (by omega) rfl (fun c9 => ?_) (fun c9 => by exfalso; omega)
  exact law_tail X hr hb (by omega) (by omega)
theorem dL_law_265 : decode code 265 = .ok (.aload_n 1, 1) := by decide +kernel
theorem dL_law_266 : decode code 266 = .ok (.aload_n 0, 1) := by decide +kernel
theorem dL_law_267 : decode code 267 = .ok (.iload_n 3, 1) := by decide +kernel
theorem dL_law_268 : decode code 268 = .ok (.iconst 1, 1) := by decide +kernel
theorem dL_law_269 : decode code 269 = .ok (.iadd, 1) := by decide +kernel
theorem dL_law_270 : decode code 270 = .ok (.iaload, 1) := by decide +kernel
theorem dL_law_271 : decode code 271 = .ok (.aload_n 0, 1) := by decide +kernel
theorem dL_law_272 : decode code 272 = .ok (.iload_n 3, 1) := by decide +kernel
theorem dL_law_273 : decode code 273 = .ok (.iconst 2, 1) := by decide +kernel
theorem dL_law_274 : decode code 274 = .ok (.iadd, 1) := by decide +kernel
theorem dL_law_275 : decode code 275 = .ok (.iaload, 1) := by decide +kernel
theorem dL_law_276 : decode code 276 = .ok (.aload_n 0, 1) := by decide +kernel
theorem dL_law_277 : decode code 277 = .ok (.iload_n 3, 1) := by decide +kernel
theorem dL_law_278 : decode code 278 = .ok (.iconst 3, 1) := by decide +kernel
theorem dL_law_279 : decode code 279 = .ok (.iadd, 1) := by decide +kernel
theorem dL_law_280 : decode code 280 = .ok (.iaload, 1) := by decide +kernel
theorem dL_law_281 : decode code 281 = .ok (.invokevirtual 18, 3) := by decide +kernel
theorem kw_3_32 : (Jvm.Cond.methodLink "ParishUnionLaw" (18 : Nat) ({ cls := "ParishUnion", name := "road", desc := "(III)I" } : Jvm.MethodName)) ∈ gT := gT_of (tb_3 _ (List.mem_of_getElem? (i := 32) rfl)) rfl
theorem kw_3_35 : (Jvm.Cond.code ({ cls := "ParishUnion", name := "road", desc := "(III)I" } : Jvm.MethodName) prog_1_method_3_code (4 : Nat) (Option.some Jvm.ClassFile.FieldType.int)) ∈ gT := gT_of (tb_3 _ (List.mem_of_getElem? (i := 35) rfl)) rfl
theorem okX11_road : gQok yX11_road cX11_road 4 (Option.some Jvm.ClassFile.FieldType.int) 3 := ⟨kw_3_35, kw_1_1, by decide +kernel, by decide +kernel, by decide +kernel⟩
theorem kw_3_33 : (Jvm.Cond.instanceMethod ({ cls := "ParishUnion", name := "road", desc := "(III)I" } : Jvm.MethodName)) ∈ gT := gT_of (tb_3 _ (List.mem_of_getElem? (i := 33) rfl)) rfl
theorem kw_3_34 : (Jvm.Cond.selects "ParishUnion" ({ cls := "ParishUnion", name := "road", desc := "(III)I" } : Jvm.MethodName) ({ cls := "ParishUnion", name := "road", desc := "(III)I" } : Jvm.MethodName)) ∈ gT := gT_of (tb_3 _ (List.mem_of_getElem? (i := 34) rfl)) rfl
theorem dL_law_284 : decode code 284 = .ok (.aload_n 2, 1) := by decide +kernel
theorem dL_law_285 : decode code 285 = .ok (.aload_n 0, 1) := by decide +kernel
theorem dL_law_286 : decode code 286 = .ok (.iload_n 3, 1) := by decide +kernel
theorem dL_law_287 : decode code 287 = .ok (.iconst 1, 1) := by decide +kernel
theorem dL_law_288 : decode code 288 = .ok (.iadd, 1) := by decide +kernel
theorem dL_law_289 : decode code 289 = .ok (.iaload, 1) := by decide +kernel
theorem dL_law_290 : decode code 290 = .ok (.aload_n 0, 1) := by decide +kernel
theorem dL_law_291 : decode code 291 = .ok (.iload_n 3, 1) := by decide +kernel
theorem dL_law_292 : decode code 292 = .ok (.iconst 2, 1) := by decide +kernel
theorem dL_law_293 : decode code 293 = .ok (.iadd, 1) := by decide +kernel
theorem dL_law_294 : decode code 294 = .ok (.iaload, 1) := by decide +kernel
theorem dL_law_295 : decode code 295 = .ok (.aload_n 0, 1) := by decide +kernel
theorem dL_law_296 : decode code 296 = .ok (.iload_n 3, 1) := by decide +kernel
theorem dL_law_297 : decode code 297 = .ok (.iconst 3, 1) := by decide +kernel
theorem dL_law_298 : decode code 298 = .ok (.iadd, 1) := by decide +kernel
theorem dL_law_299 : decode code 299 = .ok (.iaload, 1) := by decide +kernel
theorem dL_law_300 : decode code 300 = .ok (.invokevirtual 22, 3) := by decide +kernel
theorem kw_6_109 : (Jvm.Cond.methodLink "ParishUnionLaw" (22 : Nat) ({ cls := "ParishUnionModel", name := "road", desc := "(III)I" } : Jvm.MethodName)) ∈ gT := gT_of (tb_6 _ (List.mem_of_getElem? (i := 109) rfl)) rfl
theorem kw_6_112 : (Jvm.Cond.code ({ cls := "ParishUnionModel", name := "road", desc := "(III)I" } : Jvm.MethodName) prog_14_method_11_code (10 : Nat) (Option.some Jvm.ClassFile.FieldType.int)) ∈ gT := gT_of (tb_6 _ (List.mem_of_getElem? (i := 112) rfl)) rfl
theorem okX12_road : gQok yX12_road cX12_road 10 (Option.some Jvm.ClassFile.FieldType.int) 3 := ⟨kw_6_112, kw_1_13, by decide +kernel, by decide +kernel, by decide +kernel⟩
theorem kw_6_110 : (Jvm.Cond.instanceMethod ({ cls := "ParishUnionModel", name := "road", desc := "(III)I" } : Jvm.MethodName)) ∈ gT := gT_of (tb_6 _ (List.mem_of_getElem? (i := 110) rfl)) rfl
theorem kw_6_111 : (Jvm.Cond.selects "ParishUnionModel" ({ cls := "ParishUnionModel", name := "road", desc := "(III)I" } : Jvm.MethodName) ({ cls := "ParishUnionModel", name := "road", desc := "(III)I" } : Jvm.MethodName)) ∈ gT := gT_of (tb_6 _ (List.mem_of_getElem? (i := 111) rfl)) rfl
theorem dL_law_303 : decode code 303 = .ok (.if_icmp .eq 1689, 3) := by decide +kernel
set_option maxRecDepth 100000 in
set_option maxHeartbeats 4000000 in
theorem law_case_1 {p : Program} {e : Env} {s : State} {m : MethodId} {below : List Frame} {meth : Method} {c : Code} {l : Launch} {D : va_G} {cA : Nat → ClassId} {b : Nat} {xs : Nat → Int32} (X : gCx p s m #[Value.ref b] meth c s.heap.size D cA "ParishUnionLaw" code 4) (hr : meth.sig.returnType = ret) (hb : b < s.heap.size ∧ va_X b 7 xs s s.heap) {M : gM} (hFr : gFr M) : G p l e room_1 s m #[Value.ref b] below meth c s.heap.size D cA 4 (lw_Z below #[Value.ref b] s) 206 87467 M 206 265 [(3, gJ 0), (2, gA s.heap.size 190), (1, gA s.heap.size 0), (0, .ref b)] [] := by
  have rents := gFr_rents hFr
  have way := gFr_way hFr
  have beds := gFr_beds hFr
  have frost0 := gFr_frost0 hFr
  have rows0 := gFr_rows0 hFr
  have rooms0 := gFr_rooms0 hFr
  have tape0 := gFr_tape0 hFr
  have car0 := gFr_car0 hFr
  have hS := gFr_hS hFr
  obtain ⟨v0, e0, r0⟩ : ∃ z : Int, xs 0 = Int32.ofInt z ∧ -2147483648 ≤ z ∧ z ≤ 2147483647 := ⟨_, gi_of _, gi_rg _⟩
  obtain ⟨v1, e1, r1⟩ : ∃ z : Int, xs 1 = Int32.ofInt z ∧ -2147483648 ≤ z ∧ z ≤ 2147483647 := ⟨_, gi_of _, gi_rg _⟩
  obtain ⟨v2, e2, r2⟩ : ∃ z : Int, xs 2 = Int32.ofInt z ∧ -2147483648 ≤ z ∧ z ≤ 2147483647 := ⟨_, gi_of _, gi_rg _⟩
  obtain ⟨v3, e3, r3⟩ : ∃ z : Int, xs 3 = Int32.ofInt z ∧ -2147483648 ≤ z ∧ z ≤ 2147483647 := ⟨_, gi_of _, gi_rg _⟩
  obtain ⟨v4, e4, r4⟩ : ∃ z : Int, xs 4 = Int32.ofInt z ∧ -2147483648 ≤ z ∧ z ≤ 2147483647 := ⟨_, gi_of _, gi_rg _⟩
  obtain ⟨v5, e5, r5⟩ : ∃ z : Int, xs 5 = Int32.ofInt z ∧ -2147483648 ≤ z ∧ z ≤ 2147483647 := ⟨_, gi_of _, gi_rg _⟩
  obtain ⟨v6, e6, r6⟩ : ∃ z : Int, xs 6 = Int32.ofInt z ∧ -2147483648 ≤ z ∧ z ≤ 2147483647 := ⟨_, gi_of _, gi_rg _⟩
  refine g_aload_n (n := 266) X 2 dL_law_265 rfl rfl rfl ?_
  refine g_aload_n (n := 267) X 3 dL_law_266 rfl rfl rfl ?_
  refine g_iload_n (n := 268) X 0 dL_law_267 rfl rfl rfl ?_
  refine g_iconst (n := 269) X dL_law_268 rfl ?_
  refine g_iadd (n := 270) (z := 1) X dL_law_269 rfl rfl ?_
  refine g_scrld (n := 271) (z := v1) X hb (by omega) (by omega) (by omega) dL_law_270 rfl e1 ?_
  refine g_aload_n (n := 272) X 3 dL_law_271 rfl rfl rfl ?_
  refine g_iload_n (n := 273) X 0 dL_law_272 rfl rfl rfl ?_
  refine g_iconst (n := 274) X dL_law_273 rfl ?_
  refine g_iadd (n := 275) (z := 2) X dL_law_274 rfl rfl ?_
  refine g_scrld (n := 276) (z := v2) X hb (by omega) (by omega) (by omega) dL_law_275 rfl e2 ?_
  refine g_aload_n (n := 277) X 3 dL_law_276 rfl rfl rfl ?_
  refine g_iload_n (n := 278) X 0 dL_law_277 rfl rfl rfl ?_
  refine g_iconst (n := 279) X dL_law_278 rfl ?_
  refine g_iadd (n := 280) (z := 3) X dL_law_279 rfl rfl ?_
  refine g_scrld (n := 281) (z := v3) X hb (by omega) (by omega) (by omega) dL_law_280 rfl e3 ?_
  refine g_callVi (n := 284) (As := [gJ v1, gJ v2, gJ v3]) (rest := []) (cs1 := 206) (ss1 := 87467) X (c_X11_road v1 v2 v3 (by omega) (by omega) (by omega) (by omega) (gFr_0_0 hFr) (gFr_1_0 hFr) (gFr_2_1 hFr) way) okX11_road kw_3_32 ⟨kw_3_33, kw_3_34⟩ ⟨rfl, rfl⟩ ⟨Nat.le_of_ble_eq_true rfl, Nat.le_of_ble_eq_true rfl⟩ rfl (by omega) (by omega) lay_0 rfl rfl (Nat.le_of_ble_eq_true rfl) ⟨Nat.le_of_ble_eq_true rfl, Nat.le_of_ble_eq_true rfl⟩ rfl rfl dL_law_281 rfl (fun z1 M2 P3 => ?_)
  obtain ⟨P3, F4⟩ := P3
  refine g_aload_n (n := 285) X 1 dL_law_284 rfl rfl rfl ?_
  refine g_aload_n (n := 286) X 3 dL_law_285 rfl rfl rfl ?_
  refine g_iload_n (n := 287) X 0 dL_law_286 rfl rfl rfl ?_
  refine g_iconst (n := 288) X dL_law_287 rfl ?_
  refine g_iadd (n := 289) (z := 1) X dL_law_288 rfl rfl ?_
  refine g_scrld (n := 290) (z := v1) X hb (by omega) (by omega) (by omega) dL_law_289 rfl e1 ?_
  refine g_aload_n (n := 291) X 3 dL_law_290 rfl rfl rfl ?_
  refine g_iload_n (n := 292) X 0 dL_law_291 rfl rfl rfl ?_
  refine g_iconst (n := 293) X dL_law_292 rfl ?_
  refine g_iadd (n := 294) (z := 2) X dL_law_293 rfl rfl ?_
  refine g_scrld (n := 295) (z := v2) X hb (by omega) (by omega) (by omega) dL_law_294 rfl e2 ?_
  refine g_aload_n (n := 296) X 3 dL_law_295 rfl rfl rfl ?_
  refine g_iload_n (n := 297) X 0 dL_law_296 rfl rfl rfl ?_
  refine g_iconst (n := 298) X dL_law_297 rfl ?_
  refine g_iadd (n := 299) (z := 3) X dL_law_298 rfl rfl ?_
  refine g_scrld (n := 300) (z := v3) X hb (by omega) (by omega) (by omega) dL_law_299 rfl e3 ?_
  refine g_callVi (n := 303) (As := [gJ v1, gJ v2, gJ v3]) (rest := [gJ z1]) (cs1 := 206) (ss1 := 87467) X (c_X12_road v1 v2 v3 (by omega) (by omega) (by omega) (by omega) ((congrFun (F4 190 (by omega)) _).trans (gFr_190_1 hFr)) ((congrFun (F4 190 (by omega)) _).trans (gFr_190_5 hFr)) (fun i h0 h1 => (congrFun ((F4 191 (by omega)).trans rfl) i).trans (hS i h0 h1))) okX12_road kw_6_109 ⟨kw_6_110, kw_6_111⟩ ⟨rfl, rfl⟩ ⟨Nat.le_of_ble_eq_true rfl, Nat.le_of_ble_eq_true rfl⟩ rfl (by omega) (by omega) lay_190 rfl rfl (Nat.le_of_ble_eq_true rfl) ⟨Nat.le_of_ble_eq_true rfl, Nat.le_of_ble_eq_true rfl⟩ rfl rfl dL_law_300 rfl (fun z5 M6 P7 => ?_)
  obtain ⟨P7, F8⟩ := P7
  refine g_icmp_eq (n := 306) (tgt := 1992) X dL_law_303 (by decide) (by omega) (by omega) rfl (fun c9 => ?_) (fun c9 => by exfalso; omega)
  exact law_tail X hr hb (by omega) (by omega)
theorem dL_law_308 : decode code 308 = .ok (.aload_n 1, 1) := by decide +kernel
theorem dL_law_309 : decode code 309 = .ok (.aload_n 0, 1) := by decide +kernel
theorem dL_law_310 : decode code 310 = .ok (.iload_n 3, 1) := by decide +kernel
theorem dL_law_311 : decode code 311 = .ok (.iconst 1, 1) := by decide +kernel
theorem dL_law_312 : decode code 312 = .ok (.iadd, 1) := by decide +kernel
theorem dL_law_313 : decode code 313 = .ok (.iaload, 1) := by decide +kernel
theorem dL_law_314 : decode code 314 = .ok (.aload_n 0, 1) := by decide +kernel
theorem dL_law_315 : decode code 315 = .ok (.iload_n 3, 1) := by decide +kernel
theorem dL_law_316 : decode code 316 = .ok (.iconst 2, 1) := by decide +kernel
theorem dL_law_317 : decode code 317 = .ok (.iadd, 1) := by decide +kernel
theorem dL_law_318 : decode code 318 = .ok (.iaload, 1) := by decide +kernel
theorem dL_law_319 : decode code 319 = .ok (.invokevirtual 23, 3) := by decide +kernel
theorem kw_3_47 : (Jvm.Cond.methodLink "ParishUnionLaw" (23 : Nat) ({ cls := "ParishUnion", name := "far", desc := "(II)I" } : Jvm.MethodName)) ∈ gT := gT_of (tb_3 _ (List.mem_of_getElem? (i := 47) rfl)) rfl
theorem kw_3_50 : (Jvm.Cond.code ({ cls := "ParishUnion", name := "far", desc := "(II)I" } : Jvm.MethodName) prog_1_method_4_code (3 : Nat) (Option.some Jvm.ClassFile.FieldType.int)) ∈ gT := gT_of (tb_3 _ (List.mem_of_getElem? (i := 50) rfl)) rfl
theorem okX11_far : gQok yX11_far cX11_far 3 (Option.some Jvm.ClassFile.FieldType.int) 2 := ⟨kw_3_50, kw_1_1, by decide +kernel, by decide +kernel, by decide +kernel⟩
theorem kw_3_48 : (Jvm.Cond.instanceMethod ({ cls := "ParishUnion", name := "far", desc := "(II)I" } : Jvm.MethodName)) ∈ gT := gT_of (tb_3 _ (List.mem_of_getElem? (i := 48) rfl)) rfl
theorem kw_3_49 : (Jvm.Cond.selects "ParishUnion" ({ cls := "ParishUnion", name := "far", desc := "(II)I" } : Jvm.MethodName) ({ cls := "ParishUnion", name := "far", desc := "(II)I" } : Jvm.MethodName)) ∈ gT := gT_of (tb_3 _ (List.mem_of_getElem? (i := 49) rfl)) rfl
theorem dL_law_322 : decode code 322 = .ok (.aload_n 2, 1) := by decide +kernel
theorem dL_law_323 : decode code 323 = .ok (.aload_n 0, 1) := by decide +kernel
theorem dL_law_324 : decode code 324 = .ok (.iload_n 3, 1) := by decide +kernel
theorem dL_law_325 : decode code 325 = .ok (.iconst 1, 1) := by decide +kernel
theorem dL_law_326 : decode code 326 = .ok (.iadd, 1) := by decide +kernel
theorem dL_law_327 : decode code 327 = .ok (.iaload, 1) := by decide +kernel
theorem dL_law_328 : decode code 328 = .ok (.aload_n 0, 1) := by decide +kernel
theorem dL_law_329 : decode code 329 = .ok (.iload_n 3, 1) := by decide +kernel
theorem dL_law_330 : decode code 330 = .ok (.iconst 2, 1) := by decide +kernel
theorem dL_law_331 : decode code 331 = .ok (.iadd, 1) := by decide +kernel
theorem dL_law_332 : decode code 332 = .ok (.iaload, 1) := by decide +kernel
theorem dL_law_333 : decode code 333 = .ok (.invokevirtual 26, 3) := by decide +kernel
theorem kw_6_117 : (Jvm.Cond.methodLink "ParishUnionLaw" (26 : Nat) ({ cls := "ParishUnionModel", name := "far", desc := "(II)I" } : Jvm.MethodName)) ∈ gT := gT_of (tb_6 _ (List.mem_of_getElem? (i := 117) rfl)) rfl
theorem kw_6_120 : (Jvm.Cond.code ({ cls := "ParishUnionModel", name := "far", desc := "(II)I" } : Jvm.MethodName) prog_14_method_12_code (3 : Nat) (Option.some Jvm.ClassFile.FieldType.int)) ∈ gT := gT_of (tb_6 _ (List.mem_of_getElem? (i := 120) rfl)) rfl
theorem okX12_far : gQok yX12_far cX12_far 3 (Option.some Jvm.ClassFile.FieldType.int) 2 := ⟨kw_6_120, kw_1_13, by decide +kernel, by decide +kernel, by decide +kernel⟩
theorem kw_6_118 : (Jvm.Cond.instanceMethod ({ cls := "ParishUnionModel", name := "far", desc := "(II)I" } : Jvm.MethodName)) ∈ gT := gT_of (tb_6 _ (List.mem_of_getElem? (i := 118) rfl)) rfl
theorem kw_6_119 : (Jvm.Cond.selects "ParishUnionModel" ({ cls := "ParishUnionModel", name := "far", desc := "(II)I" } : Jvm.MethodName) ({ cls := "ParishUnionModel", name := "far", desc := "(II)I" } : Jvm.MethodName)) ∈ gT := gT_of (tb_6 _ (List.mem_of_getElem? (i := 119) rfl)) rfl
theorem dL_law_336 : decode code 336 = .ok (.if_icmp .eq 1656, 3) := by decide +kernel
set_option maxRecDepth 100000 in
set_option maxHeartbeats 4000000 in
theorem law_case_2 {p : Program} {e : Env} {s : State} {m : MethodId} {below : List Frame} {meth : Method} {c : Code} {l : Launch} {D : va_G} {cA : Nat → ClassId} {b : Nat} {xs : Nat → Int32} (X : gCx p s m #[Value.ref b] meth c s.heap.size D cA "ParishUnionLaw" code 4) (hr : meth.sig.returnType = ret) (hb : b < s.heap.size ∧ va_X b 7 xs s s.heap) {M : gM} (hFr : gFr M) : G p l e room_1 s m #[Value.ref b] below meth c s.heap.size D cA 4 (lw_Z below #[Value.ref b] s) 206 87467 M 206 308 [(3, gJ 0), (2, gA s.heap.size 190), (1, gA s.heap.size 0), (0, .ref b)] [] := by
  have rents := gFr_rents hFr
  have way := gFr_way hFr
  have beds := gFr_beds hFr
  have frost0 := gFr_frost0 hFr
  have rows0 := gFr_rows0 hFr
  have rooms0 := gFr_rooms0 hFr
  have tape0 := gFr_tape0 hFr
  have car0 := gFr_car0 hFr
  have hS := gFr_hS hFr
  obtain ⟨v0, e0, r0⟩ : ∃ z : Int, xs 0 = Int32.ofInt z ∧ -2147483648 ≤ z ∧ z ≤ 2147483647 := ⟨_, gi_of _, gi_rg _⟩
  obtain ⟨v1, e1, r1⟩ : ∃ z : Int, xs 1 = Int32.ofInt z ∧ -2147483648 ≤ z ∧ z ≤ 2147483647 := ⟨_, gi_of _, gi_rg _⟩
  obtain ⟨v2, e2, r2⟩ : ∃ z : Int, xs 2 = Int32.ofInt z ∧ -2147483648 ≤ z ∧ z ≤ 2147483647 := ⟨_, gi_of _, gi_rg _⟩
  obtain ⟨v3, e3, r3⟩ : ∃ z : Int, xs 3 = Int32.ofInt z ∧ -2147483648 ≤ z ∧ z ≤ 2147483647 := ⟨_, gi_of _, gi_rg _⟩
  obtain ⟨v4, e4, r4⟩ : ∃ z : Int, xs 4 = Int32.ofInt z ∧ -2147483648 ≤ z ∧ z ≤ 2147483647 := ⟨_, gi_of _, gi_rg _⟩
  obtain ⟨v5, e5, r5⟩ : ∃ z : Int, xs 5 = Int32.ofInt z ∧ -2147483648 ≤ z ∧ z ≤ 2147483647 := ⟨_, gi_of _, gi_rg _⟩
  obtain ⟨v6, e6, r6⟩ : ∃ z : Int, xs 6 = Int32.ofInt z ∧ -2147483648 ≤ z ∧ z ≤ 2147483647 := ⟨_, gi_of _, gi_rg _⟩
  refine g_aload_n (n := 309) X 2 dL_law_308 rfl rfl rfl ?_
  refine g_aload_n (n := 310) X 3 dL_law_309 rfl rfl rfl ?_
  refine g_iload_n (n := 311) X 0 dL_law_310 rfl rfl rfl ?_
  refine g_iconst (n := 312) X dL_law_311 rfl ?_
  refine g_iadd (n := 313) (z := 1) X dL_law_312 rfl rfl ?_
  refine g_scrld (n := 314) (z := v1) X hb (by omega) (by omega) (by omega) dL_law_313 rfl e1 ?_
  refine g_aload_n (n := 315) X 3 dL_law_314 rfl rfl rfl ?_
  refine g_iload_n (n := 316) X 0 dL_law_315 rfl rfl rfl ?_
  refine g_iconst (n := 317) X dL_law_316 rfl ?_
  refine g_iadd (n := 318) (z := 2) X dL_law_317 rfl rfl ?_
  refine g_scrld (n := 319) (z := v2) X hb (by omega) (by omega) (by omega) dL_law_318 rfl e2 ?_
  refine g_callVi (n := 322) (As := [gJ v1, gJ v2]) (rest := []) (cs1 := 206) (ss1 := 87467) X (c_X11_far v1 v2 (by omega) (by omega) (by omega) (gFr_0_0 hFr) (gFr_1_0 hFr) (gFr_2_1 hFr) way) okX11_far kw_3_47 ⟨kw_3_48, kw_3_49⟩ ⟨rfl, rfl⟩ ⟨Nat.le_of_ble_eq_true rfl, Nat.le_of_ble_eq_true rfl⟩ rfl (by omega) (by omega) lay_0 rfl rfl (Nat.le_of_ble_eq_true rfl) ⟨Nat.le_of_ble_eq_true rfl, Nat.le_of_ble_eq_true rfl⟩ rfl rfl dL_law_319 rfl (fun z1 M2 P3 => ?_)
  obtain ⟨P3, F4⟩ := P3
  refine g_aload_n (n := 323) X 1 dL_law_322 rfl rfl rfl ?_
  refine g_aload_n (n := 324) X 3 dL_law_323 rfl rfl rfl ?_
  refine g_iload_n (n := 325) X 0 dL_law_324 rfl rfl rfl ?_
  refine g_iconst (n := 326) X dL_law_325 rfl ?_
  refine g_iadd (n := 327) (z := 1) X dL_law_326 rfl rfl ?_
  refine g_scrld (n := 328) (z := v1) X hb (by omega) (by omega) (by omega) dL_law_327 rfl e1 ?_
  refine g_aload_n (n := 329) X 3 dL_law_328 rfl rfl rfl ?_
  refine g_iload_n (n := 330) X 0 dL_law_329 rfl rfl rfl ?_
  refine g_iconst (n := 331) X dL_law_330 rfl ?_
  refine g_iadd (n := 332) (z := 2) X dL_law_331 rfl rfl ?_
  refine g_scrld (n := 333) (z := v2) X hb (by omega) (by omega) (by omega) dL_law_332 rfl e2 ?_
  refine g_callVi (n := 336) (As := [gJ v1, gJ v2]) (rest := [gJ z1]) (cs1 := 206) (ss1 := 87467) X (c_X12_far v1 v2 (by omega) (by omega) (by omega) ((congrFun (F4 190) _).trans (gFr_190_1 hFr)) (fun i h0 h1 => (congrFun ((F4 191).trans rfl) i).trans (hS i h0 h1))) okX12_far kw_6_117 ⟨kw_6_118, kw_6_119⟩ ⟨rfl, rfl⟩ ⟨Nat.le_of_ble_eq_true rfl, Nat.le_of_ble_eq_true rfl⟩ rfl (by omega) (by omega) lay_190 rfl rfl (Nat.le_of_ble_eq_true rfl) ⟨Nat.le_of_ble_eq_true rfl, Nat.le_of_ble_eq_true rfl⟩ rfl rfl dL_law_333 rfl (fun z5 M6 P7 => ?_)
  obtain ⟨P7, F8⟩ := P7
  refine g_icmp_eq (n := 339) (tgt := 1992) X dL_law_336 (by decide) (by omega) (by omega) rfl (fun c9 => ?_) (fun c9 => by exfalso; omega)
  exact law_tail X hr hb (by omega) (by omega)
theorem dL_law_341 : decode code 341 = .ok (.aload_n 1, 1) := by decide +kernel
theorem dL_law_342 : decode code 342 = .ok (.aload_n 0, 1) := by decide +kernel
theorem dL_law_343 : decode code 343 = .ok (.iload_n 3, 1) := by decide +kernel
theorem dL_law_344 : decode code 344 = .ok (.iconst 1, 1) := by decide +kernel
theorem dL_law_345 : decode code 345 = .ok (.iadd, 1) := by decide +kernel
theorem dL_law_346 : decode code 346 = .ok (.iaload, 1) := by decide +kernel
theorem dL_law_347 : decode code 347 = .ok (.aload_n 0, 1) := by decide +kernel
theorem dL_law_348 : decode code 348 = .ok (.iload_n 3, 1) := by decide +kernel
theorem dL_law_349 : decode code 349 = .ok (.iconst 2, 1) := by decide +kernel
theorem dL_law_350 : decode code 350 = .ok (.iadd, 1) := by decide +kernel
theorem dL_law_351 : decode code 351 = .ok (.iaload, 1) := by decide +kernel
theorem dL_law_352 : decode code 352 = .ok (.aload_n 0, 1) := by decide +kernel
theorem dL_law_353 : decode code 353 = .ok (.iload_n 3, 1) := by decide +kernel
theorem dL_law_354 : decode code 354 = .ok (.iconst 3, 1) := by decide +kernel
theorem dL_law_355 : decode code 355 = .ok (.iadd, 1) := by decide +kernel
theorem dL_law_356 : decode code 356 = .ok (.iaload, 1) := by decide +kernel
theorem dL_law_357 : decode code 357 = .ok (.aload_n 0, 1) := by decide +kernel
theorem dL_law_358 : decode code 358 = .ok (.iload_n 3, 1) := by decide +kernel
theorem dL_law_359 : decode code 359 = .ok (.iconst 4, 1) := by decide +kernel
theorem dL_law_360 : decode code 360 = .ok (.iadd, 1) := by decide +kernel
theorem dL_law_361 : decode code 361 = .ok (.iaload, 1) := by decide +kernel
theorem dL_law_362 : decode code 362 = .ok (.aload_n 0, 1) := by decide +kernel
theorem dL_law_363 : decode code 363 = .ok (.iload_n 3, 1) := by decide +kernel
theorem dL_law_364 : decode code 364 = .ok (.iconst 5, 1) := by decide +kernel
theorem dL_law_365 : decode code 365 = .ok (.iadd, 1) := by decide +kernel
theorem dL_law_366 : decode code 366 = .ok (.iaload, 1) := by decide +kernel
theorem dL_law_367 : decode code 367 = .ok (.invokevirtual 27, 3) := by decide +kernel
theorem kw_3_52 : (Jvm.Cond.methodLink "ParishUnionLaw" (27 : Nat) ({ cls := "ParishUnion", name := "person", desc := "(IIIII)I" } : Jvm.MethodName)) ∈ gT := gT_of (tb_3 _ (List.mem_of_getElem? (i := 52) rfl)) rfl
theorem kw_3_55 : (Jvm.Cond.code ({ cls := "ParishUnion", name := "person", desc := "(IIIII)I" } : Jvm.MethodName) prog_1_method_5_code (7 : Nat) (Option.some Jvm.ClassFile.FieldType.int)) ∈ gT := gT_of (tb_3 _ (List.mem_of_getElem? (i := 55) rfl)) rfl
theorem okX11_person : gQok yX11_person cX11_person 7 (Option.some Jvm.ClassFile.FieldType.int) 5 := ⟨kw_3_55, kw_1_1, by decide +kernel, by decide +kernel, by decide +kernel⟩
theorem kw_3_53 : (Jvm.Cond.instanceMethod ({ cls := "ParishUnion", name := "person", desc := "(IIIII)I" } : Jvm.MethodName)) ∈ gT := gT_of (tb_3 _ (List.mem_of_getElem? (i := 53) rfl)) rfl
theorem kw_3_54 : (Jvm.Cond.selects "ParishUnion" ({ cls := "ParishUnion", name := "person", desc := "(IIIII)I" } : Jvm.MethodName) ({ cls := "ParishUnion", name := "person", desc := "(IIIII)I" } : Jvm.MethodName)) ∈ gT := gT_of (tb_3 _ (List.mem_of_getElem? (i := 54) rfl)) rfl
theorem dL_law_370 : decode code 370 = .ok (.aload_n 2, 1) := by decide +kernel
theorem dL_law_371 : decode code 371 = .ok (.aload_n 0, 1) := by decide +kernel
theorem dL_law_372 : decode code 372 = .ok (.iload_n 3, 1) := by decide +kernel
theorem dL_law_373 : decode code 373 = .ok (.iconst 1, 1) := by decide +kernel
theorem dL_law_374 : decode code 374 = .ok (.iadd, 1) := by decide +kernel
theorem dL_law_375 : decode code 375 = .ok (.iaload, 1) := by decide +kernel
theorem dL_law_376 : decode code 376 = .ok (.aload_n 0, 1) := by decide +kernel
theorem dL_law_377 : decode code 377 = .ok (.iload_n 3, 1) := by decide +kernel
theorem dL_law_378 : decode code 378 = .ok (.iconst 2, 1) := by decide +kernel
theorem dL_law_379 : decode code 379 = .ok (.iadd, 1) := by decide +kernel
theorem dL_law_380 : decode code 380 = .ok (.iaload, 1) := by decide +kernel
theorem dL_law_381 : decode code 381 = .ok (.aload_n 0, 1) := by decide +kernel
theorem dL_law_382 : decode code 382 = .ok (.iload_n 3, 1) := by decide +kernel
theorem dL_law_383 : decode code 383 = .ok (.iconst 3, 1) := by decide +kernel
theorem dL_law_384 : decode code 384 = .ok (.iadd, 1) := by decide +kernel
theorem dL_law_385 : decode code 385 = .ok (.iaload, 1) := by decide +kernel
theorem dL_law_386 : decode code 386 = .ok (.aload_n 0, 1) := by decide +kernel
theorem dL_law_387 : decode code 387 = .ok (.iload_n 3, 1) := by decide +kernel
theorem dL_law_388 : decode code 388 = .ok (.iconst 4, 1) := by decide +kernel
theorem dL_law_389 : decode code 389 = .ok (.iadd, 1) := by decide +kernel
theorem dL_law_390 : decode code 390 = .ok (.iaload, 1) := by decide +kernel
theorem dL_law_391 : decode code 391 = .ok (.aload_n 0, 1) := by decide +kernel
theorem dL_law_392 : decode code 392 = .ok (.iload_n 3, 1) := by decide +kernel
theorem dL_law_393 : decode code 393 = .ok (.iconst 5, 1) := by decide +kernel
theorem dL_law_394 : decode code 394 = .ok (.iadd, 1) := by decide +kernel
theorem dL_law_395 : decode code 395 = .ok (.iaload, 1) := by decide +kernel
theorem dL_law_396 : decode code 396 = .ok (.invokevirtual 31, 3) := by decide +kernel
theorem kw_6_121 : (Jvm.Cond.methodLink "ParishUnionLaw" (31 : Nat) ({ cls := "ParishUnionModel", name := "person", desc := "(IIIII)I" } : Jvm.MethodName)) ∈ gT := gT_of (tb_6 _ (List.mem_of_getElem? (i := 121) rfl)) rfl
theorem kw_6_124 : (Jvm.Cond.code ({ cls := "ParishUnionModel", name := "person", desc := "(IIIII)I" } : Jvm.MethodName) prog_14_method_13_code (8 : Nat) (Option.some Jvm.ClassFile.FieldType.int)) ∈ gT := gT_of (tb_6 _ (List.mem_of_getElem? (i := 124) rfl)) rfl
theorem okX12_person : gQok yX12_person cX12_person 8 (Option.some Jvm.ClassFile.FieldType.int) 5 := ⟨kw_6_124, kw_1_13, by decide +kernel, by decide +kernel, by decide +kernel⟩
theorem kw_6_122 : (Jvm.Cond.instanceMethod ({ cls := "ParishUnionModel", name := "person", desc := "(IIIII)I" } : Jvm.MethodName)) ∈ gT := gT_of (tb_6 _ (List.mem_of_getElem? (i := 122) rfl)) rfl
theorem kw_6_123 : (Jvm.Cond.selects "ParishUnionModel" ({ cls := "ParishUnionModel", name := "person", desc := "(IIIII)I" } : Jvm.MethodName) ({ cls := "ParishUnionModel", name := "person", desc := "(IIIII)I" } : Jvm.MethodName)) ∈ gT := gT_of (tb_6 _ (List.mem_of_getElem? (i := 123) rfl)) rfl
theorem dL_law_399 : decode code 399 = .ok (.if_icmp .eq 1593, 3) := by decide +kernel
set_option maxRecDepth 100000 in
set_option maxHeartbeats 4000000 in
theorem law_case_3 {p : Program} {e : Env} {s : State} {m : MethodId} {below : List Frame} {meth : Method} {c : Code} {l : Launch} {D : va_G} {cA : Nat → ClassId} {b : Nat} {xs : Nat → Int32} (X : gCx p s m #[Value.ref b] meth c s.heap.size D cA "ParishUnionLaw" code 4) (hr : meth.sig.returnType = ret) (hb : b < s.heap.size ∧ va_X b 7 xs s s.heap) {M : gM} (hFr : gFr M) : G p l e room_1 s m #[Value.ref b] below meth c s.heap.size D cA 4 (lw_Z below #[Value.ref b] s) 206 87467 M 206 341 [(3, gJ 0), (2, gA s.heap.size 190), (1, gA s.heap.size 0), (0, .ref b)] [] := by
  have rents := gFr_rents hFr
  have way := gFr_way hFr
  have beds := gFr_beds hFr
  have frost0 := gFr_frost0 hFr
  have rows0 := gFr_rows0 hFr
  have rooms0 := gFr_rooms0 hFr
  have tape0 := gFr_tape0 hFr
  have car0 := gFr_car0 hFr
  have hS := gFr_hS hFr
  obtain ⟨v0, e0, r0⟩ : ∃ z : Int, xs 0 = Int32.ofInt z ∧ -2147483648 ≤ z ∧ z ≤ 2147483647 := ⟨_, gi_of _, gi_rg _⟩
  obtain ⟨v1, e1, r1⟩ : ∃ z : Int, xs 1 = Int32.ofInt z ∧ -2147483648 ≤ z ∧ z ≤ 2147483647 := ⟨_, gi_of _, gi_rg _⟩
  obtain ⟨v2, e2, r2⟩ : ∃ z : Int, xs 2 = Int32.ofInt z ∧ -2147483648 ≤ z ∧ z ≤ 2147483647 := ⟨_, gi_of _, gi_rg _⟩
  obtain ⟨v3, e3, r3⟩ : ∃ z : Int, xs 3 = Int32.ofInt z ∧ -2147483648 ≤ z ∧ z ≤ 2147483647 := ⟨_, gi_of _, gi_rg _⟩
  obtain ⟨v4, e4, r4⟩ : ∃ z : Int, xs 4 = Int32.ofInt z ∧ -2147483648 ≤ z ∧ z ≤ 2147483647 := ⟨_, gi_of _, gi_rg _⟩
  obtain ⟨v5, e5, r5⟩ : ∃ z : Int, xs 5 = Int32.ofInt z ∧ -2147483648 ≤ z ∧ z ≤ 2147483647 := ⟨_, gi_of _, gi_rg _⟩
  obtain ⟨v6, e6, r6⟩ : ∃ z : Int, xs 6 = Int32.ofInt z ∧ -2147483648 ≤ z ∧ z ≤ 2147483647 := ⟨_, gi_of _, gi_rg _⟩
  refine g_aload_n (n := 342) X 2 dL_law_341 rfl rfl rfl ?_
  refine g_aload_n (n := 343) X 3 dL_law_342 rfl rfl rfl ?_
  refine g_iload_n (n := 344) X 0 dL_law_343 rfl rfl rfl ?_
  refine g_iconst (n := 345) X dL_law_344 rfl ?_
  refine g_iadd (n := 346) (z := 1) X dL_law_345 rfl rfl ?_
  refine g_scrld (n := 347) (z := v1) X hb (by omega) (by omega) (by omega) dL_law_346 rfl e1 ?_
  refine g_aload_n (n := 348) X 3 dL_law_347 rfl rfl rfl ?_
  refine g_iload_n (n := 349) X 0 dL_law_348 rfl rfl rfl ?_
  refine g_iconst (n := 350) X dL_law_349 rfl ?_
  refine g_iadd (n := 351) (z := 2) X dL_law_350 rfl rfl ?_
  refine g_scrld (n := 352) (z := v2) X hb (by omega) (by omega) (by omega) dL_law_351 rfl e2 ?_
  refine g_aload_n (n := 353) X 3 dL_law_352 rfl rfl rfl ?_
  refine g_iload_n (n := 354) X 0 dL_law_353 rfl rfl rfl ?_
  refine g_iconst (n := 355) X dL_law_354 rfl ?_
  refine g_iadd (n := 356) (z := 3) X dL_law_355 rfl rfl ?_
  refine g_scrld (n := 357) (z := v3) X hb (by omega) (by omega) (by omega) dL_law_356 rfl e3 ?_
  refine g_aload_n (n := 358) X 3 dL_law_357 rfl rfl rfl ?_
  refine g_iload_n (n := 359) X 0 dL_law_358 rfl rfl rfl ?_
  refine g_iconst (n := 360) X dL_law_359 rfl ?_
  refine g_iadd (n := 361) (z := 4) X dL_law_360 rfl rfl ?_
  refine g_scrld (n := 362) (z := v4) X hb (by omega) (by omega) (by omega) dL_law_361 rfl e4 ?_
  refine g_aload_n (n := 363) X 3 dL_law_362 rfl rfl rfl ?_
  refine g_iload_n (n := 364) X 0 dL_law_363 rfl rfl rfl ?_
  refine g_iconst (n := 365) X dL_law_364 rfl ?_
  refine g_iadd (n := 366) (z := 5) X dL_law_365 rfl rfl ?_
  refine g_scrld (n := 367) (z := v5) X hb (by omega) (by omega) (by omega) dL_law_366 rfl e5 ?_
  refine g_callVi (n := 370) (As := [gJ v1, gJ v2, gJ v3, gJ v4, gJ v5]) (rest := []) (cs1 := 206) (ss1 := 87467) X (c_X11_person v1 v2 v3 v4 v5 (by omega) (by omega) (by omega) (by omega) (by omega) (by omega) (gFr_0_0 hFr) (gFr_1_10 hFr) (gFr_1_15 hFr) (gFr_1_1 hFr) (gFr_5_0 hFr)) okX11_person kw_3_52 ⟨kw_3_53, kw_3_54⟩ ⟨rfl, rfl⟩ ⟨Nat.le_of_ble_eq_true rfl, Nat.le_of_ble_eq_true rfl⟩ rfl (by omega) (by omega) lay_0 rfl rfl (Nat.le_of_ble_eq_true rfl) ⟨Nat.le_of_ble_eq_true rfl, Nat.le_of_ble_eq_true rfl⟩ rfl rfl dL_law_367 rfl (fun z1 M2 P3 => ?_)
  obtain ⟨P3, F4⟩ := P3
  refine g_aload_n (n := 371) X 1 dL_law_370 rfl rfl rfl ?_
  refine g_aload_n (n := 372) X 3 dL_law_371 rfl rfl rfl ?_
  refine g_iload_n (n := 373) X 0 dL_law_372 rfl rfl rfl ?_
  refine g_iconst (n := 374) X dL_law_373 rfl ?_
  refine g_iadd (n := 375) (z := 1) X dL_law_374 rfl rfl ?_
  refine g_scrld (n := 376) (z := v1) X hb (by omega) (by omega) (by omega) dL_law_375 rfl e1 ?_
  refine g_aload_n (n := 377) X 3 dL_law_376 rfl rfl rfl ?_
  refine g_iload_n (n := 378) X 0 dL_law_377 rfl rfl rfl ?_
  refine g_iconst (n := 379) X dL_law_378 rfl ?_
  refine g_iadd (n := 380) (z := 2) X dL_law_379 rfl rfl ?_
  refine g_scrld (n := 381) (z := v2) X hb (by omega) (by omega) (by omega) dL_law_380 rfl e2 ?_
  refine g_aload_n (n := 382) X 3 dL_law_381 rfl rfl rfl ?_
  refine g_iload_n (n := 383) X 0 dL_law_382 rfl rfl rfl ?_
  refine g_iconst (n := 384) X dL_law_383 rfl ?_
  refine g_iadd (n := 385) (z := 3) X dL_law_384 rfl rfl ?_
  refine g_scrld (n := 386) (z := v3) X hb (by omega) (by omega) (by omega) dL_law_385 rfl e3 ?_
  refine g_aload_n (n := 387) X 3 dL_law_386 rfl rfl rfl ?_
  refine g_iload_n (n := 388) X 0 dL_law_387 rfl rfl rfl ?_
  refine g_iconst (n := 389) X dL_law_388 rfl ?_
  refine g_iadd (n := 390) (z := 4) X dL_law_389 rfl rfl ?_
  refine g_scrld (n := 391) (z := v4) X hb (by omega) (by omega) (by omega) dL_law_390 rfl e4 ?_
  refine g_aload_n (n := 392) X 3 dL_law_391 rfl rfl rfl ?_
  refine g_iload_n (n := 393) X 0 dL_law_392 rfl rfl rfl ?_
  refine g_iconst (n := 394) X dL_law_393 rfl ?_
  refine g_iadd (n := 395) (z := 5) X dL_law_394 rfl rfl ?_
  refine g_scrld (n := 396) (z := v5) X hb (by omega) (by omega) (by omega) dL_law_395 rfl e5 ?_
  refine g_callVi (n := 399) (As := [gJ v1, gJ v2, gJ v3, gJ v4, gJ v5]) (rest := [gJ z1]) (cs1 := 206) (ss1 := 87467) X (c_X12_person v1 v2 v3 v4 v5 (by omega) (by omega) (by omega) (by omega) (by omega) (by omega) ((congrFun (F4 190 (by omega) (by omega)) _).trans (gFr_190_1 hFr)) ((congrFun (F4 191 (by omega) (by omega)) _).trans ((hS 0 (by omega) (by omega)).trans (by decide))) ((congrFun (F4 191 (by omega) (by omega)) _).trans ((hS 1 (by omega) (by omega)).trans (by decide))) ((congrFun (F4 190 (by omega) (by omega)) _).trans (gFr_190_19 hFr))) okX12_person kw_6_121 ⟨kw_6_122, kw_6_123⟩ ⟨rfl, rfl⟩ ⟨Nat.le_of_ble_eq_true rfl, Nat.le_of_ble_eq_true rfl⟩ rfl (by omega) (by omega) lay_190 rfl rfl (Nat.le_of_ble_eq_true rfl) ⟨Nat.le_of_ble_eq_true rfl, Nat.le_of_ble_eq_true rfl⟩ rfl rfl dL_law_396 rfl (fun z5 M6 P7 => ?_)
  obtain ⟨P7, F8⟩ := P7
  refine g_icmp_eq (n := 402) (tgt := 1992) X dL_law_399 (by decide) (by omega) (by omega) rfl (fun c9 => ?_) (fun c9 => by exfalso; omega)
  exact law_tail X hr hb (by omega) (by omega)
