theorem dL_law_232 : decode code 232 = .ok (.aload_n 1, 1) := by decide +kernel
theorem dL_law_233 : decode code 233 = .ok (.aload_n 0, 1) := by decide +kernel
theorem dL_law_234 : decode code 234 = .ok (.iload_n 3, 1) := by decide +kernel
theorem dL_law_235 : decode code 235 = .ok (.iconst 1, 1) := by decide +kernel
theorem dL_law_236 : decode code 236 = .ok (.iadd, 1) := by decide +kernel
theorem dL_law_237 : decode code 237 = .ok (.iaload, 1) := by decide +kernel
theorem dL_law_238 : decode code 238 = .ok (.aload_n 0, 1) := by decide +kernel
theorem dL_law_239 : decode code 239 = .ok (.iload_n 3, 1) := by decide +kernel
theorem dL_law_240 : decode code 240 = .ok (.iconst 2, 1) := by decide +kernel
theorem dL_law_241 : decode code 241 = .ok (.iadd, 1) := by decide +kernel
theorem dL_law_242 : decode code 242 = .ok (.iaload, 1) := by decide +kernel
theorem dL_law_243 : decode code 243 = .ok (.invokevirtual 13, 3) := by decide +kernel
theorem kw_3_22 : (Jvm.Cond.methodLink "ParishUnionLaw" (13 : Nat) ({ cls := "ParishUnion", name := "parish", desc := "(II)I" } : Jvm.MethodName)) ∈ gT := gT_of (tb_3 _ (List.mem_of_getElem? (i := 22) rfl)) rfl
theorem kw_3_25 : (Jvm.Cond.code ({ cls := "ParishUnion", name := "parish", desc := "(II)I" } : Jvm.MethodName) prog_1_method_2_code (4 : Nat) (Option.some Jvm.ClassFile.FieldType.int)) ∈ gT := gT_of (tb_3 _ (List.mem_of_getElem? (i := 25) rfl)) rfl
theorem okX11_parish : gQok yX11_parish cX11_parish 4 (Option.some Jvm.ClassFile.FieldType.int) 2 := ⟨kw_3_25, kw_1_1, by decide +kernel, by decide +kernel, by decide +kernel⟩
theorem kw_3_23 : (Jvm.Cond.instanceMethod ({ cls := "ParishUnion", name := "parish", desc := "(II)I" } : Jvm.MethodName)) ∈ gT := gT_of (tb_3 _ (List.mem_of_getElem? (i := 23) rfl)) rfl
theorem kw_3_24 : (Jvm.Cond.selects "ParishUnion" ({ cls := "ParishUnion", name := "parish", desc := "(II)I" } : Jvm.MethodName) ({ cls := "ParishUnion", name := "parish", desc := "(II)I" } : Jvm.MethodName)) ∈ gT := gT_of (tb_3 _ (List.mem_of_getElem? (i := 24) rfl)) rfl
theorem dL_law_246 : decode code 246 = .ok (.aload_n 2, 1) := by decide +kernel
theorem dL_law_247 : decode code 247 = .ok (.aload_n 0, 1) := by decide +kernel
theorem dL_law_248 : decode code 248 = .ok (.iload_n 3, 1) := by decide +kernel
theorem dL_law_249 : decode code 249 = .ok (.iconst 1, 1) := by decide +kernel
theorem dL_law_250 : decode code 250 = .ok (.iadd, 1) := by decide +kernel
theorem dL_law_251 : decode code 251 = .ok (.iaload, 1) := by decide +kernel
theorem dL_law_252 : decode code 252 = .ok (.aload_n 0, 1) := by decide +kernel
theorem dL_law_253 : decode code 253 = .ok (.iload_n 3, 1) := by decide +kernel
theorem dL_law_254 : decode code 254 = .ok (.iconst 2, 1) := by decide +kernel
theorem dL_law_255 : decode code 255 = .ok (.iadd, 1) := by decide +kernel
theorem dL_law_256 : decode code 256 = .ok (.iaload, 1) := by decide +kernel
theorem dL_law_257 : decode code 257 = .ok (.invokevirtual 17, 3) := by decide +kernel
theorem kw_6_99 : (Jvm.Cond.methodLink "ParishUnionLaw" (17 : Nat) ({ cls := "ParishUnionModel", name := "parish", desc := "(II)I" } : Jvm.MethodName)) ∈ gT := gT_of (tb_6 _ (List.mem_of_getElem? (i := 99) rfl)) rfl
theorem kw_6_102 : (Jvm.Cond.code ({ cls := "ParishUnionModel", name := "parish", desc := "(II)I" } : Jvm.MethodName) prog_14_method_9_code (4 : Nat) (Option.some Jvm.ClassFile.FieldType.int)) ∈ gT := gT_of (tb_6 _ (List.mem_of_getElem? (i := 102) rfl)) rfl
theorem okX12_parish : gQok yX12_parish cX12_parish 4 (Option.some Jvm.ClassFile.FieldType.int) 2 := ⟨kw_6_102, kw_1_13, by decide +kernel, by decide +kernel, by decide +kernel⟩
theorem kw_6_100 : (Jvm.Cond.instanceMethod ({ cls := "ParishUnionModel", name := "parish", desc := "(II)I" } : Jvm.MethodName)) ∈ gT := gT_of (tb_6 _ (List.mem_of_getElem? (i := 100) rfl)) rfl
theorem kw_6_101 : (Jvm.Cond.selects "ParishUnionModel" ({ cls := "ParishUnionModel", name := "parish", desc := "(II)I" } : Jvm.MethodName) ({ cls := "ParishUnionModel", name := "parish", desc := "(II)I" } : Jvm.MethodName)) ∈ gT := gT_of (tb_6 _ (List.mem_of_getElem? (i := 101) rfl)) rfl
theorem dL_law_260 : decode code 260 = .ok (.if_icmp .eq 1732, 3) := by decide +kernel
set_option maxRecDepth 100000 in
set_option maxHeartbeats 4000000 in
theorem law_case_0 {p : Program} {e : Env} {s : State} {m : MethodId} {below : List Frame} {meth : Method} {cd : Code} {l : Launch} {D : va_G} {cA : Nat → ClassId} {b Ln : Nat} {xs : Nat → Int32} (X : gCx p s m #[Value.ref b] meth cd s.heap.size D cA "ParishUnionLaw" code 4) (hr : meth.sig.returnType = ret) (hb : b < s.heap.size ∧ va_X b Ln xs s s.heap) (hLn : Ln ≤ 3584) {sz cs ss : Nat} {M : gM} (L : lwI sz cs ss M) (i : Int) (hi : 0 ≤ i ∧ i + 7 ≤ (Ln : Int)) (kk : ∀ (sz cs ss : Nat) (M1 : gM), lwI sz cs ss M1 → G p l e room_1 s m #[Value.ref b] below meth cd s.heap.size D cA 4 (lw_Z below #[Value.ref b] s) cs ss M1 sz 1992 [(3, gJ i), (2, gA s.heap.size 190), (1, gA s.heap.size 0), (0, .ref b)] []) : G p l e room_1 s m #[Value.ref b] below meth cd s.heap.size D cA 4 (lw_Z below #[Value.ref b] s) cs ss M sz 232 [(3, gJ i), (2, gA s.heap.size 190), (1, gA s.heap.size 0), (0, .ref b)] [] := by
  obtain ⟨hsz, I, C, W, LA, LB, LK, LR⟩ := L
  obtain ⟨ac, hac, rac⟩ : ∃ v : Int, M 1 13 = v ∧ (0 ≤ v ∧ v ≤ 10) := by
    obtain ⟨v, hv, rv⟩ := gRd I (by decide) (gsz hsz (by decide)) rc_1_13.1
    exact ⟨v, hv, by omega⟩
  obtain ⟨ab, hab, rab⟩ : ∃ v : Int, M 191 4 = v ∧ (0 ≤ v ∧ v ≤ 10) := by
    obtain ⟨v, hv, rv⟩ := gRd I (by decide) (gsz hsz (by decide)) (rs_NA (k := 4) (by omega)).1
    exact ⟨v, hv, by omega⟩
  have hRm : cs + 0 ≤ room_1.cells ∧ ss + 0 ≤ room_1.slots := by
    show cs + 0 ≤ 349274 ∧ ss + 0 ≤ 8054428
    have := lwK.room LK
    omega
  obtain ⟨u1, eu1, ru1⟩ : ∃ z : Int, xs (i + 1).toNat = Int32.ofInt z ∧ (-2147483648 ≤ z ∧ z ≤ 2147483647) := ⟨_, gi_of _, gi_rg _⟩
  obtain ⟨u2, eu2, ru2⟩ : ∃ z : Int, xs (i + 2).toNat = Int32.ofInt z ∧ (-2147483648 ≤ z ∧ z ≤ 2147483647) := ⟨_, gi_of _, gi_rg _⟩
  obtain ⟨u3, eu3, ru3⟩ : ∃ z : Int, xs (i + 3).toNat = Int32.ofInt z ∧ (-2147483648 ≤ z ∧ z ≤ 2147483647) := ⟨_, gi_of _, gi_rg _⟩
  obtain ⟨u4, eu4, ru4⟩ : ∃ z : Int, xs (i + 4).toNat = Int32.ofInt z ∧ (-2147483648 ≤ z ∧ z ≤ 2147483647) := ⟨_, gi_of _, gi_rg _⟩
  obtain ⟨u5, eu5, ru5⟩ : ∃ z : Int, xs (i + 5).toNat = Int32.ofInt z ∧ (-2147483648 ≤ z ∧ z ≤ 2147483647) := ⟨_, gi_of _, gi_rg _⟩
  obtain ⟨u6, eu6, ru6⟩ : ∃ z : Int, xs (i + 6).toNat = Int32.ofInt z ∧ (-2147483648 ≤ z ∧ z ≤ 2147483647) := ⟨_, gi_of _, gi_rg _⟩
  refine g_aload_n (n := 233) X 2 dL_law_232 rfl rfl rfl ?_
  refine g_aload_n (n := 234) X 3 dL_law_233 rfl rfl rfl ?_
  refine g_iload_n (n := 235) X 0 dL_law_234 rfl rfl rfl ?_
  refine g_iconst (n := 236) X dL_law_235 rfl ?_
  refine g_iadd (n := 237) (z := i + 1) X dL_law_236 (by omega) rfl ?_
  refine g_scrld (n := 238) (z := u1) X hb (by omega) (by omega) (by omega) dL_law_237 rfl eu1 ?_
  refine g_aload_n (n := 239) X 3 dL_law_238 rfl rfl rfl ?_
  refine g_iload_n (n := 240) X 0 dL_law_239 rfl rfl rfl ?_
  refine g_iconst (n := 241) X dL_law_240 rfl ?_
  refine g_iadd (n := 242) (z := i + 2) X dL_law_241 (by omega) rfl ?_
  refine g_scrld (n := 243) (z := u2) X hb (by omega) (by omega) (by omega) dL_law_242 rfl eu2 ?_
  refine g_callVi (n := 246) (As := [gJ u1, gJ u2]) (rest := []) (cs1 := cs) (ss1 := ss) X (s_X11_parish u1 (by omega) u2 (by omega) hsz I C ) okX11_parish kw_3_22 ⟨kw_3_23, kw_3_24⟩ ⟨rfl, rfl⟩ ⟨Nat.le_of_ble_eq_true rfl, Nat.le_of_ble_eq_true rfl⟩ rfl (by decide) (gsz hsz (by decide)) lay_0 rfl rfl (Nat.le_of_ble_eq_true rfl) hRm rfl rfl dL_law_243 rfl (fun v1 M2 P3 => ?_)
  obtain ⟨rv1, IM2, CM2, FM2, xM2⟩ := P3
  refine g_aload_n (n := 247) X 1 dL_law_246 rfl rfl rfl ?_
  refine g_aload_n (n := 248) X 3 dL_law_247 rfl rfl rfl ?_
  refine g_iload_n (n := 249) X 0 dL_law_248 rfl rfl rfl ?_
  refine g_iconst (n := 250) X dL_law_249 rfl ?_
  refine g_iadd (n := 251) (z := i + 1) X dL_law_250 (by omega) rfl ?_
  refine g_scrld (n := 252) (z := u1) X hb (by omega) (by omega) (by omega) dL_law_251 rfl eu1 ?_
  refine g_aload_n (n := 253) X 3 dL_law_252 rfl rfl rfl ?_
  refine g_iload_n (n := 254) X 0 dL_law_253 rfl rfl rfl ?_
  refine g_iconst (n := 255) X dL_law_254 rfl ?_
  refine g_iadd (n := 256) (z := i + 2) X dL_law_255 (by omega) rfl ?_
  refine g_scrld (n := 257) (z := u2) X hb (by omega) (by omega) (by omega) dL_law_256 rfl eu2 ?_
  refine g_callVi (n := 260) (As := [gJ u1, gJ u2]) (rest := [gJ v1]) (cs1 := cs) (ss1 := ss) X (s_X12_parish u1 (by omega) u2 (by omega) hsz IM2 CM2 ) okX12_parish kw_6_99 ⟨kw_6_100, kw_6_101⟩ ⟨rfl, rfl⟩ ⟨Nat.le_of_ble_eq_true rfl, Nat.le_of_ble_eq_true rfl⟩ rfl (by decide) (gsz hsz (by decide)) lay_190 rfl rfl (Nat.le_of_ble_eq_true rfl) hRm rfl rfl dL_law_257 rfl (fun v4 M5 P6 => ?_)
  obtain ⟨rv4, IM5, CM5, FM5, xM5⟩ := P6
  obtain ⟨hz, hR⟩ := rel_0 LR xM2 (fun k => gFr.s191 FM2 rfl k) xM5 (fun k => gFr.at FM5 (ra_3 k).2.2 rfl)
  refine g_icmp_eq (n := 263) (tgt := 1992) X dL_law_260 (by decide) (by omega) (by omega) rfl (fun c7 => ?_) (fun c7 => by exfalso; omega)
  exact kk _ _ _ _ ⟨hsz, IM5, CM5, (gW.fr (S := 35184372088834) W ⟨sz, hsz, I⟩ (gFr.c (gFr.c gFr.rf FM2 rfl) FM5 rfl) rfl), (by rw [((gFr.at FM5 rc_1_13.2.2 rfl).trans (gFr.at FM2 rc_1_13.2.2 rfl))]; exact LA), (by rw [((gFr.at FM5 (rs_NA (k := 4) (by omega)).2.2 rfl).trans (gFr.at FM2 (rs_NA (k := 4) (by omega)).2.2 rfl))]; exact LB), (lwK.fr LK ((gFr.c (gFr.c gFr.rf FM2 rfl) FM5 rfl) : gFr 35184372088834 M M5) rfl), hR⟩
theorem dL_law_265 : decode code 265 = .ok (.aload_n 1, 1) := by decide +kernel
theorem dL_law_266 : decode code 266 = .ok (.aload_n 0, 1) := by decide +kernel
theorem dL_law_267 : decode code 267 = .ok (.iload_n 3, 1) := by decide +kernel
theorem dL_law_268 : decode code 268 = .ok (.iconst 1, 1) := by decide +kernel
theorem dL_law_269 : decode code 269 = .ok (.iadd, 1) := by decide +kernel
theorem dL_law_270 : decode code 270 = .ok (.iaload, 1) := by decide +kernel
theorem dL_law_271 : decode code 271 = .ok (.aload_n 0, 1) := by decide +kernel
theorem dL_law_272 : decode code 272 = .ok (.iload_n 3, 1) := by decide +kernel
theorem dL_law_273 : decode code 273 = .ok (.iconst 2, 1) := by decide +kernel
theorem dL_law_274 : decode code 274 = .ok (.iadd, 1) := by decide +kernel
theorem dL_law_275 : decode code 275 = .ok (.iaload, 1) := by decide +kernel
theorem dL_law_276 : decode code 276 = .ok (.aload_n 0, 1) := by decide +kernel
theorem dL_law_277 : decode code 277 = .ok (.iload_n 3, 1) := by decide +kernel
theorem dL_law_278 : decode code 278 = .ok (.iconst 3, 1) := by decide +kernel
theorem dL_law_279 : decode code 279 = .ok (.iadd, 1) := by decide +kernel
theorem dL_law_280 : decode code 280 = .ok (.iaload, 1) := by decide +kernel
theorem dL_law_281 : decode code 281 = .ok (.invokevirtual 18, 3) := by decide +kernel
theorem kw_3_32 : (Jvm.Cond.methodLink "ParishUnionLaw" (18 : Nat) ({ cls := "ParishUnion", name := "road", desc := "(III)I" } : Jvm.MethodName)) ∈ gT := gT_of (tb_3 _ (List.mem_of_getElem? (i := 32) rfl)) rfl
theorem kw_3_35 : (Jvm.Cond.code ({ cls := "ParishUnion", name := "road", desc := "(III)I" } : Jvm.MethodName) prog_1_method_3_code (4 : Nat) (Option.some Jvm.ClassFile.FieldType.int)) ∈ gT := gT_of (tb_3 _ (List.mem_of_getElem? (i := 35) rfl)) rfl
theorem okX11_road : gQok yX11_road cX11_road 4 (Option.some Jvm.ClassFile.FieldType.int) 3 := ⟨kw_3_35, kw_1_1, by decide +kernel, by decide +kernel, by decide +kernel⟩
theorem kw_3_33 : (Jvm.Cond.instanceMethod ({ cls := "ParishUnion", name := "road", desc := "(III)I" } : Jvm.MethodName)) ∈ gT := gT_of (tb_3 _ (List.mem_of_getElem? (i := 33) rfl)) rfl
theorem kw_3_34 : (Jvm.Cond.selects "ParishUnion" ({ cls := "ParishUnion", name := "road", desc := "(III)I" } : Jvm.MethodName) ({ cls := "ParishUnion", name := "road", desc := "(III)I" } : Jvm.MethodName)) ∈ gT := gT_of (tb_3 _ (List.mem_of_getElem? (i := 34) rfl)) rfl
theorem dL_law_284 : decode code 284 = .ok (.pop, 1) := by decide +kernel
theorem dL_law_285 : decode code 285 = .ok (.aload_n 2, 1) := by decide +kernel
theorem dL_law_286 : decode code 286 = .ok (.aload_n 0, 1) := by decide +kernel
theorem dL_law_287 : decode code 287 = .ok (.iload_n 3, 1) := by decide +kernel
theorem dL_law_288 : decode code 288 = .ok (.iconst 1, 1) := by decide +kernel
theorem dL_law_289 : decode code 289 = .ok (.iadd, 1) := by decide +kernel
theorem dL_law_290 : decode code 290 = .ok (.iaload, 1) := by decide +kernel
theorem dL_law_291 : decode code 291 = .ok (.aload_n 0, 1) := by decide +kernel
theorem dL_law_292 : decode code 292 = .ok (.iload_n 3, 1) := by decide +kernel
theorem dL_law_293 : decode code 293 = .ok (.iconst 2, 1) := by decide +kernel
theorem dL_law_294 : decode code 294 = .ok (.iadd, 1) := by decide +kernel
theorem dL_law_295 : decode code 295 = .ok (.iaload, 1) := by decide +kernel
theorem dL_law_296 : decode code 296 = .ok (.aload_n 0, 1) := by decide +kernel
theorem dL_law_297 : decode code 297 = .ok (.iload_n 3, 1) := by decide +kernel
theorem dL_law_298 : decode code 298 = .ok (.iconst 3, 1) := by decide +kernel
theorem dL_law_299 : decode code 299 = .ok (.iadd, 1) := by decide +kernel
theorem dL_law_300 : decode code 300 = .ok (.iaload, 1) := by decide +kernel
theorem dL_law_301 : decode code 301 = .ok (.invokevirtual 22, 3) := by decide +kernel
theorem kw_6_109 : (Jvm.Cond.methodLink "ParishUnionLaw" (22 : Nat) ({ cls := "ParishUnionModel", name := "road", desc := "(III)I" } : Jvm.MethodName)) ∈ gT := gT_of (tb_6 _ (List.mem_of_getElem? (i := 109) rfl)) rfl
theorem kw_6_112 : (Jvm.Cond.code ({ cls := "ParishUnionModel", name := "road", desc := "(III)I" } : Jvm.MethodName) prog_14_method_11_code (10 : Nat) (Option.some Jvm.ClassFile.FieldType.int)) ∈ gT := gT_of (tb_6 _ (List.mem_of_getElem? (i := 112) rfl)) rfl
theorem okX12_road : gQok yX12_road cX12_road 10 (Option.some Jvm.ClassFile.FieldType.int) 3 := ⟨kw_6_112, kw_1_13, by decide +kernel, by decide +kernel, by decide +kernel⟩
theorem kw_6_110 : (Jvm.Cond.instanceMethod ({ cls := "ParishUnionModel", name := "road", desc := "(III)I" } : Jvm.MethodName)) ∈ gT := gT_of (tb_6 _ (List.mem_of_getElem? (i := 110) rfl)) rfl
theorem kw_6_111 : (Jvm.Cond.selects "ParishUnionModel" ({ cls := "ParishUnionModel", name := "road", desc := "(III)I" } : Jvm.MethodName) ({ cls := "ParishUnionModel", name := "road", desc := "(III)I" } : Jvm.MethodName)) ∈ gT := gT_of (tb_6 _ (List.mem_of_getElem? (i := 111) rfl)) rfl
theorem dL_law_304 : decode code 304 = .ok (.pop, 1) := by decide +kernel
theorem dL_law_305 : decode code 305 = .ok (.goto 1687, 3) := by decide +kernel
set_option maxRecDepth 100000 in
set_option maxHeartbeats 4000000 in
theorem law_case_1 {p : Program} {e : Env} {s : State} {m : MethodId} {below : List Frame} {meth : Method} {cd : Code} {l : Launch} {D : va_G} {cA : Nat → ClassId} {b Ln : Nat} {xs : Nat → Int32} (X : gCx p s m #[Value.ref b] meth cd s.heap.size D cA "ParishUnionLaw" code 4) (hr : meth.sig.returnType = ret) (hb : b < s.heap.size ∧ va_X b Ln xs s s.heap) (hLn : Ln ≤ 3584) {sz cs ss : Nat} {M : gM} (L : lwI sz cs ss M) (i : Int) (hi : 0 ≤ i ∧ i + 7 ≤ (Ln : Int)) (kk : ∀ (sz cs ss : Nat) (M1 : gM), lwI sz cs ss M1 → G p l e room_1 s m #[Value.ref b] below meth cd s.heap.size D cA 4 (lw_Z below #[Value.ref b] s) cs ss M1 sz 1992 [(3, gJ i), (2, gA s.heap.size 190), (1, gA s.heap.size 0), (0, .ref b)] []) : G p l e room_1 s m #[Value.ref b] below meth cd s.heap.size D cA 4 (lw_Z below #[Value.ref b] s) cs ss M sz 265 [(3, gJ i), (2, gA s.heap.size 190), (1, gA s.heap.size 0), (0, .ref b)] [] := by
  obtain ⟨hsz, I, C, W, LA, LB, LK, LR⟩ := L
  obtain ⟨ac, hac, rac⟩ : ∃ v : Int, M 1 13 = v ∧ (0 ≤ v ∧ v ≤ 10) := by
    obtain ⟨v, hv, rv⟩ := gRd I (by decide) (gsz hsz (by decide)) rc_1_13.1
    exact ⟨v, hv, by omega⟩
  obtain ⟨ab, hab, rab⟩ : ∃ v : Int, M 191 4 = v ∧ (0 ≤ v ∧ v ≤ 10) := by
    obtain ⟨v, hv, rv⟩ := gRd I (by decide) (gsz hsz (by decide)) (rs_NA (k := 4) (by omega)).1
    exact ⟨v, hv, by omega⟩
  have hRm : cs + 0 ≤ room_1.cells ∧ ss + 0 ≤ room_1.slots := by
    show cs + 0 ≤ 349274 ∧ ss + 0 ≤ 8054428
    have := lwK.room LK
    omega
  obtain ⟨u1, eu1, ru1⟩ : ∃ z : Int, xs (i + 1).toNat = Int32.ofInt z ∧ (-2147483648 ≤ z ∧ z ≤ 2147483647) := ⟨_, gi_of _, gi_rg _⟩
  obtain ⟨u2, eu2, ru2⟩ : ∃ z : Int, xs (i + 2).toNat = Int32.ofInt z ∧ (-2147483648 ≤ z ∧ z ≤ 2147483647) := ⟨_, gi_of _, gi_rg _⟩
  obtain ⟨u3, eu3, ru3⟩ : ∃ z : Int, xs (i + 3).toNat = Int32.ofInt z ∧ (-2147483648 ≤ z ∧ z ≤ 2147483647) := ⟨_, gi_of _, gi_rg _⟩
  obtain ⟨u4, eu4, ru4⟩ : ∃ z : Int, xs (i + 4).toNat = Int32.ofInt z ∧ (-2147483648 ≤ z ∧ z ≤ 2147483647) := ⟨_, gi_of _, gi_rg _⟩
  obtain ⟨u5, eu5, ru5⟩ : ∃ z : Int, xs (i + 5).toNat = Int32.ofInt z ∧ (-2147483648 ≤ z ∧ z ≤ 2147483647) := ⟨_, gi_of _, gi_rg _⟩
  obtain ⟨u6, eu6, ru6⟩ : ∃ z : Int, xs (i + 6).toNat = Int32.ofInt z ∧ (-2147483648 ≤ z ∧ z ≤ 2147483647) := ⟨_, gi_of _, gi_rg _⟩
  refine g_aload_n (n := 266) X 2 dL_law_265 rfl rfl rfl ?_
  refine g_aload_n (n := 267) X 3 dL_law_266 rfl rfl rfl ?_
  refine g_iload_n (n := 268) X 0 dL_law_267 rfl rfl rfl ?_
  refine g_iconst (n := 269) X dL_law_268 rfl ?_
  refine g_iadd (n := 270) (z := i + 1) X dL_law_269 (by omega) rfl ?_
  refine g_scrld (n := 271) (z := u1) X hb (by omega) (by omega) (by omega) dL_law_270 rfl eu1 ?_
  refine g_aload_n (n := 272) X 3 dL_law_271 rfl rfl rfl ?_
  refine g_iload_n (n := 273) X 0 dL_law_272 rfl rfl rfl ?_
  refine g_iconst (n := 274) X dL_law_273 rfl ?_
  refine g_iadd (n := 275) (z := i + 2) X dL_law_274 (by omega) rfl ?_
  refine g_scrld (n := 276) (z := u2) X hb (by omega) (by omega) (by omega) dL_law_275 rfl eu2 ?_
  refine g_aload_n (n := 277) X 3 dL_law_276 rfl rfl rfl ?_
  refine g_iload_n (n := 278) X 0 dL_law_277 rfl rfl rfl ?_
  refine g_iconst (n := 279) X dL_law_278 rfl ?_
  refine g_iadd (n := 280) (z := i + 3) X dL_law_279 (by omega) rfl ?_
  refine g_scrld (n := 281) (z := u3) X hb (by omega) (by omega) (by omega) dL_law_280 rfl eu3 ?_
  refine g_callVi (n := 284) (As := [gJ u1, gJ u2, gJ u3]) (rest := []) (cs1 := cs) (ss1 := ss) X (s_X11_road u1 (by omega) u2 (by omega) u3 (by omega) hsz I C ) okX11_road kw_3_32 ⟨kw_3_33, kw_3_34⟩ ⟨rfl, rfl⟩ ⟨Nat.le_of_ble_eq_true rfl, Nat.le_of_ble_eq_true rfl⟩ rfl (by decide) (gsz hsz (by decide)) lay_0 rfl rfl (Nat.le_of_ble_eq_true rfl) hRm rfl rfl dL_law_281 rfl (fun v1 M2 P3 => ?_)
  obtain ⟨rv1, IM2, CM2, FM2⟩ := P3
  refine g_pop (n := 285) X dL_law_284 rfl rfl ?_
  refine g_aload_n (n := 286) X 1 dL_law_285 rfl rfl rfl ?_
  refine g_aload_n (n := 287) X 3 dL_law_286 rfl rfl rfl ?_
  refine g_iload_n (n := 288) X 0 dL_law_287 rfl rfl rfl ?_
  refine g_iconst (n := 289) X dL_law_288 rfl ?_
  refine g_iadd (n := 290) (z := i + 1) X dL_law_289 (by omega) rfl ?_
  refine g_scrld (n := 291) (z := u1) X hb (by omega) (by omega) (by omega) dL_law_290 rfl eu1 ?_
  refine g_aload_n (n := 292) X 3 dL_law_291 rfl rfl rfl ?_
  refine g_iload_n (n := 293) X 0 dL_law_292 rfl rfl rfl ?_
  refine g_iconst (n := 294) X dL_law_293 rfl ?_
  refine g_iadd (n := 295) (z := i + 2) X dL_law_294 (by omega) rfl ?_
  refine g_scrld (n := 296) (z := u2) X hb (by omega) (by omega) (by omega) dL_law_295 rfl eu2 ?_
  refine g_aload_n (n := 297) X 3 dL_law_296 rfl rfl rfl ?_
  refine g_iload_n (n := 298) X 0 dL_law_297 rfl rfl rfl ?_
  refine g_iconst (n := 299) X dL_law_298 rfl ?_
  refine g_iadd (n := 300) (z := i + 3) X dL_law_299 (by omega) rfl ?_
  refine g_scrld (n := 301) (z := u3) X hb (by omega) (by omega) (by omega) dL_law_300 rfl eu3 ?_
  refine g_callVi (n := 304) (As := [gJ u1, gJ u2, gJ u3]) (rest := []) (cs1 := cs) (ss1 := ss) X (s_X12_road u1 (by omega) u2 (by omega) u3 (by omega) hsz IM2 CM2 ) okX12_road kw_6_109 ⟨kw_6_110, kw_6_111⟩ ⟨rfl, rfl⟩ ⟨Nat.le_of_ble_eq_true rfl, Nat.le_of_ble_eq_true rfl⟩ rfl (by decide) (gsz hsz (by decide)) lay_190 rfl rfl (Nat.le_of_ble_eq_true rfl) hRm rfl rfl dL_law_301 rfl (fun v4 M5 P6 => ?_)
  obtain ⟨rv4, IM5, CM5, FM5⟩ := P6
  refine g_pop (n := 305) X dL_law_304 rfl rfl ?_
  refine g_goto (tgt := 1992) X dL_law_305 (by decide) ?_
  exact kk _ _ _ _ ⟨hsz, IM5, CM5, (gW.fr (S := 36893558516163280900) W ⟨sz, hsz, I⟩ (gFr.c (gFr.c gFr.rf FM2 rfl) FM5 rfl) rfl), (by rw [((gFr.at FM5 rc_1_13.2.2 rfl).trans (gFr.at FM2 rc_1_13.2.2 rfl))]; exact LA), (by rw [((gFr.at FM5 (rs_NA (k := 4) (by omega)).2.2 rfl).trans (gFr.at FM2 (rs_NA (k := 4) (by omega)).2.2 rfl))]; exact LB), (lwK.fr LK ((gFr.c (gFr.c gFr.rf FM2 rfl) FM5 rfl) : gFr 36893558516163280900 M M5) rfl), (fun b h0 h1 => by rw [((gFr.at FM5 (ra_3 b).2.2 rfl).trans (gFr.at FM2 (ra_3 b).2.2 rfl)), ((gFr.at FM5 (rs_RENT (k := b + 16) (by omega)).2.2 rfl).trans (gFr.at FM2 (rs_RENT (k := b + 16) (by omega)).2.2 rfl))]; exact LR b h0 h1)⟩
theorem dL_law_308 : decode code 308 = .ok (.aload_n 1, 1) := by decide +kernel
theorem dL_law_309 : decode code 309 = .ok (.aload_n 0, 1) := by decide +kernel
theorem dL_law_310 : decode code 310 = .ok (.iload_n 3, 1) := by decide +kernel
theorem dL_law_311 : decode code 311 = .ok (.iconst 1, 1) := by decide +kernel
theorem dL_law_312 : decode code 312 = .ok (.iadd, 1) := by decide +kernel
theorem dL_law_313 : decode code 313 = .ok (.iaload, 1) := by decide +kernel
theorem dL_law_314 : decode code 314 = .ok (.aload_n 0, 1) := by decide +kernel
theorem dL_law_315 : decode code 315 = .ok (.iload_n 3, 1) := by decide +kernel
theorem dL_law_316 : decode code 316 = .ok (.iconst 2, 1) := by decide +kernel
theorem dL_law_317 : decode code 317 = .ok (.iadd, 1) := by decide +kernel
theorem dL_law_318 : decode code 318 = .ok (.iaload, 1) := by decide +kernel
theorem dL_law_319 : decode code 319 = .ok (.invokevirtual 23, 3) := by decide +kernel
theorem kw_3_47 : (Jvm.Cond.methodLink "ParishUnionLaw" (23 : Nat) ({ cls := "ParishUnion", name := "far", desc := "(II)I" } : Jvm.MethodName)) ∈ gT := gT_of (tb_3 _ (List.mem_of_getElem? (i := 47) rfl)) rfl
theorem kw_3_50 : (Jvm.Cond.code ({ cls := "ParishUnion", name := "far", desc := "(II)I" } : Jvm.MethodName) prog_1_method_4_code (3 : Nat) (Option.some Jvm.ClassFile.FieldType.int)) ∈ gT := gT_of (tb_3 _ (List.mem_of_getElem? (i := 50) rfl)) rfl
theorem okX11_far : gQok yX11_far cX11_far 3 (Option.some Jvm.ClassFile.FieldType.int) 2 := ⟨kw_3_50, kw_1_1, by decide +kernel, by decide +kernel, by decide +kernel⟩
theorem kw_3_48 : (Jvm.Cond.instanceMethod ({ cls := "ParishUnion", name := "far", desc := "(II)I" } : Jvm.MethodName)) ∈ gT := gT_of (tb_3 _ (List.mem_of_getElem? (i := 48) rfl)) rfl
theorem kw_3_49 : (Jvm.Cond.selects "ParishUnion" ({ cls := "ParishUnion", name := "far", desc := "(II)I" } : Jvm.MethodName) ({ cls := "ParishUnion", name := "far", desc := "(II)I" } : Jvm.MethodName)) ∈ gT := gT_of (tb_3 _ (List.mem_of_getElem? (i := 49) rfl)) rfl
theorem dL_law_322 : decode code 322 = .ok (.pop, 1) := by decide +kernel
theorem dL_law_323 : decode code 323 = .ok (.aload_n 2, 1) := by decide +kernel
theorem dL_law_324 : decode code 324 = .ok (.aload_n 0, 1) := by decide +kernel
theorem dL_law_325 : decode code 325 = .ok (.iload_n 3, 1) := by decide +kernel
theorem dL_law_326 : decode code 326 = .ok (.iconst 1, 1) := by decide +kernel
theorem dL_law_327 : decode code 327 = .ok (.iadd, 1) := by decide +kernel
theorem dL_law_328 : decode code 328 = .ok (.iaload, 1) := by decide +kernel
theorem dL_law_329 : decode code 329 = .ok (.aload_n 0, 1) := by decide +kernel
theorem dL_law_330 : decode code 330 = .ok (.iload_n 3, 1) := by decide +kernel
theorem dL_law_331 : decode code 331 = .ok (.iconst 2, 1) := by decide +kernel
theorem dL_law_332 : decode code 332 = .ok (.iadd, 1) := by decide +kernel
theorem dL_law_333 : decode code 333 = .ok (.iaload, 1) := by decide +kernel
theorem dL_law_334 : decode code 334 = .ok (.invokevirtual 26, 3) := by decide +kernel
theorem kw_6_117 : (Jvm.Cond.methodLink "ParishUnionLaw" (26 : Nat) ({ cls := "ParishUnionModel", name := "far", desc := "(II)I" } : Jvm.MethodName)) ∈ gT := gT_of (tb_6 _ (List.mem_of_getElem? (i := 117) rfl)) rfl
theorem kw_6_120 : (Jvm.Cond.code ({ cls := "ParishUnionModel", name := "far", desc := "(II)I" } : Jvm.MethodName) prog_14_method_12_code (3 : Nat) (Option.some Jvm.ClassFile.FieldType.int)) ∈ gT := gT_of (tb_6 _ (List.mem_of_getElem? (i := 120) rfl)) rfl
theorem okX12_far : gQok yX12_far cX12_far 3 (Option.some Jvm.ClassFile.FieldType.int) 2 := ⟨kw_6_120, kw_1_13, by decide +kernel, by decide +kernel, by decide +kernel⟩
theorem kw_6_118 : (Jvm.Cond.instanceMethod ({ cls := "ParishUnionModel", name := "far", desc := "(II)I" } : Jvm.MethodName)) ∈ gT := gT_of (tb_6 _ (List.mem_of_getElem? (i := 118) rfl)) rfl
theorem kw_6_119 : (Jvm.Cond.selects "ParishUnionModel" ({ cls := "ParishUnionModel", name := "far", desc := "(II)I" } : Jvm.MethodName) ({ cls := "ParishUnionModel", name := "far", desc := "(II)I" } : Jvm.MethodName)) ∈ gT := gT_of (tb_6 _ (List.mem_of_getElem? (i := 119) rfl)) rfl
theorem dL_law_337 : decode code 337 = .ok (.pop, 1) := by decide +kernel
theorem dL_law_338 : decode code 338 = .ok (.goto 1654, 3) := by decide +kernel
set_option maxRecDepth 100000 in
set_option maxHeartbeats 4000000 in
theorem law_case_2 {p : Program} {e : Env} {s : State} {m : MethodId} {below : List Frame} {meth : Method} {cd : Code} {l : Launch} {D : va_G} {cA : Nat → ClassId} {b Ln : Nat} {xs : Nat → Int32} (X : gCx p s m #[Value.ref b] meth cd s.heap.size D cA "ParishUnionLaw" code 4) (hr : meth.sig.returnType = ret) (hb : b < s.heap.size ∧ va_X b Ln xs s s.heap) (hLn : Ln ≤ 3584) {sz cs ss : Nat} {M : gM} (L : lwI sz cs ss M) (i : Int) (hi : 0 ≤ i ∧ i + 7 ≤ (Ln : Int)) (kk : ∀ (sz cs ss : Nat) (M1 : gM), lwI sz cs ss M1 → G p l e room_1 s m #[Value.ref b] below meth cd s.heap.size D cA 4 (lw_Z below #[Value.ref b] s) cs ss M1 sz 1992 [(3, gJ i), (2, gA s.heap.size 190), (1, gA s.heap.size 0), (0, .ref b)] []) : G p l e room_1 s m #[Value.ref b] below meth cd s.heap.size D cA 4 (lw_Z below #[Value.ref b] s) cs ss M sz 308 [(3, gJ i), (2, gA s.heap.size 190), (1, gA s.heap.size 0), (0, .ref b)] [] := by
  obtain ⟨hsz, I, C, W, LA, LB, LK, LR⟩ := L
  obtain ⟨ac, hac, rac⟩ : ∃ v : Int, M 1 13 = v ∧ (0 ≤ v ∧ v ≤ 10) := by
    obtain ⟨v, hv, rv⟩ := gRd I (by decide) (gsz hsz (by decide)) rc_1_13.1
    exact ⟨v, hv, by omega⟩
  obtain ⟨ab, hab, rab⟩ : ∃ v : Int, M 191 4 = v ∧ (0 ≤ v ∧ v ≤ 10) := by
    obtain ⟨v, hv, rv⟩ := gRd I (by decide) (gsz hsz (by decide)) (rs_NA (k := 4) (by omega)).1
    exact ⟨v, hv, by omega⟩
  have hRm : cs + 0 ≤ room_1.cells ∧ ss + 0 ≤ room_1.slots := by
    show cs + 0 ≤ 349274 ∧ ss + 0 ≤ 8054428
    have := lwK.room LK
    omega
  obtain ⟨u1, eu1, ru1⟩ : ∃ z : Int, xs (i + 1).toNat = Int32.ofInt z ∧ (-2147483648 ≤ z ∧ z ≤ 2147483647) := ⟨_, gi_of _, gi_rg _⟩
  obtain ⟨u2, eu2, ru2⟩ : ∃ z : Int, xs (i + 2).toNat = Int32.ofInt z ∧ (-2147483648 ≤ z ∧ z ≤ 2147483647) := ⟨_, gi_of _, gi_rg _⟩
  obtain ⟨u3, eu3, ru3⟩ : ∃ z : Int, xs (i + 3).toNat = Int32.ofInt z ∧ (-2147483648 ≤ z ∧ z ≤ 2147483647) := ⟨_, gi_of _, gi_rg _⟩
  obtain ⟨u4, eu4, ru4⟩ : ∃ z : Int, xs (i + 4).toNat = Int32.ofInt z ∧ (-2147483648 ≤ z ∧ z ≤ 2147483647) := ⟨_, gi_of _, gi_rg _⟩
  obtain ⟨u5, eu5, ru5⟩ : ∃ z : Int, xs (i + 5).toNat = Int32.ofInt z ∧ (-2147483648 ≤ z ∧ z ≤ 2147483647) := ⟨_, gi_of _, gi_rg _⟩
  obtain ⟨u6, eu6, ru6⟩ : ∃ z : Int, xs (i + 6).toNat = Int32.ofInt z ∧ (-2147483648 ≤ z ∧ z ≤ 2147483647) := ⟨_, gi_of _, gi_rg _⟩
  refine g_aload_n (n := 309) X 2 dL_law_308 rfl rfl rfl ?_
  refine g_aload_n (n := 310) X 3 dL_law_309 rfl rfl rfl ?_
  refine g_iload_n (n := 311) X 0 dL_law_310 rfl rfl rfl ?_
  refine g_iconst (n := 312) X dL_law_311 rfl ?_
  refine g_iadd (n := 313) (z := i + 1) X dL_law_312 (by omega) rfl ?_
  refine g_scrld (n := 314) (z := u1) X hb (by omega) (by omega) (by omega) dL_law_313 rfl eu1 ?_
  refine g_aload_n (n := 315) X 3 dL_law_314 rfl rfl rfl ?_
  refine g_iload_n (n := 316) X 0 dL_law_315 rfl rfl rfl ?_
  refine g_iconst (n := 317) X dL_law_316 rfl ?_
  refine g_iadd (n := 318) (z := i + 2) X dL_law_317 (by omega) rfl ?_
  refine g_scrld (n := 319) (z := u2) X hb (by omega) (by omega) (by omega) dL_law_318 rfl eu2 ?_
  refine g_callVi (n := 322) (As := [gJ u1, gJ u2]) (rest := []) (cs1 := cs) (ss1 := ss) X (s_X11_far u1 (by omega) u2 (by omega) hsz I C ) okX11_far kw_3_47 ⟨kw_3_48, kw_3_49⟩ ⟨rfl, rfl⟩ ⟨Nat.le_of_ble_eq_true rfl, Nat.le_of_ble_eq_true rfl⟩ rfl (by decide) (gsz hsz (by decide)) lay_0 rfl rfl (Nat.le_of_ble_eq_true rfl) hRm rfl rfl dL_law_319 rfl (fun v1 M2 P3 => ?_)
  obtain ⟨rfl, rv1⟩ := P3
  refine g_pop (n := 323) X dL_law_322 rfl rfl ?_
  refine g_aload_n (n := 324) X 1 dL_law_323 rfl rfl rfl ?_
  refine g_aload_n (n := 325) X 3 dL_law_324 rfl rfl rfl ?_
  refine g_iload_n (n := 326) X 0 dL_law_325 rfl rfl rfl ?_
  refine g_iconst (n := 327) X dL_law_326 rfl ?_
  refine g_iadd (n := 328) (z := i + 1) X dL_law_327 (by omega) rfl ?_
  refine g_scrld (n := 329) (z := u1) X hb (by omega) (by omega) (by omega) dL_law_328 rfl eu1 ?_
  refine g_aload_n (n := 330) X 3 dL_law_329 rfl rfl rfl ?_
  refine g_iload_n (n := 331) X 0 dL_law_330 rfl rfl rfl ?_
  refine g_iconst (n := 332) X dL_law_331 rfl ?_
  refine g_iadd (n := 333) (z := i + 2) X dL_law_332 (by omega) rfl ?_
  refine g_scrld (n := 334) (z := u2) X hb (by omega) (by omega) (by omega) dL_law_333 rfl eu2 ?_
  refine g_callVi (n := 337) (As := [gJ u1, gJ u2]) (rest := []) (cs1 := cs) (ss1 := ss) X (s_X12_far u1 (by omega) u2 (by omega) hsz I C ) okX12_far kw_6_117 ⟨kw_6_118, kw_6_119⟩ ⟨rfl, rfl⟩ ⟨Nat.le_of_ble_eq_true rfl, Nat.le_of_ble_eq_true rfl⟩ rfl (by decide) (gsz hsz (by decide)) lay_190 rfl rfl (Nat.le_of_ble_eq_true rfl) hRm rfl rfl dL_law_334 rfl (fun v4 M5 P6 => ?_)
  obtain ⟨rfl, rv4⟩ := P6
  refine g_pop (n := 338) X dL_law_337 rfl rfl ?_
  refine g_goto (tgt := 1992) X dL_law_338 (by decide) ?_
  exact kk _ _ _ _ ⟨hsz, I, C, W, LA, LB, (lwK.fr LK (gFr.rf : gFr 0 M M) rfl), LR⟩
theorem dL_law_404 : decode code 404 = .ok (.aload_n 1, 1) := by decide +kernel
theorem dL_law_405 : decode code 405 = .ok (.aload_n 0, 1) := by decide +kernel
theorem dL_law_406 : decode code 406 = .ok (.iload_n 3, 1) := by decide +kernel
theorem dL_law_407 : decode code 407 = .ok (.iconst 1, 1) := by decide +kernel
theorem dL_law_408 : decode code 408 = .ok (.iadd, 1) := by decide +kernel
theorem dL_law_409 : decode code 409 = .ok (.iaload, 1) := by decide +kernel
theorem dL_law_410 : decode code 410 = .ok (.aload_n 0, 1) := by decide +kernel
theorem dL_law_411 : decode code 411 = .ok (.iload_n 3, 1) := by decide +kernel
theorem dL_law_412 : decode code 412 = .ok (.iconst 2, 1) := by decide +kernel
theorem dL_law_413 : decode code 413 = .ok (.iadd, 1) := by decide +kernel
theorem dL_law_414 : decode code 414 = .ok (.iaload, 1) := by decide +kernel
theorem dL_law_415 : decode code 415 = .ok (.invokevirtual 32, 3) := by decide +kernel
theorem kw_3_68 : (Jvm.Cond.methodLink "ParishUnionLaw" (32 : Nat) ({ cls := "ParishUnion", name := "about", desc := "(II)I" } : Jvm.MethodName)) ∈ gT := gT_of (tb_3 _ (List.mem_of_getElem? (i := 68) rfl)) rfl
theorem kw_3_71 : (Jvm.Cond.code ({ cls := "ParishUnion", name := "about", desc := "(II)I" } : Jvm.MethodName) prog_1_method_6_code (4 : Nat) (Option.some Jvm.ClassFile.FieldType.int)) ∈ gT := gT_of (tb_3 _ (List.mem_of_getElem? (i := 71) rfl)) rfl
theorem okX11_about : gQok yX11_about cX11_about 4 (Option.some Jvm.ClassFile.FieldType.int) 2 := ⟨kw_3_71, kw_1_1, by decide +kernel, by decide +kernel, by decide +kernel⟩
theorem kw_3_69 : (Jvm.Cond.instanceMethod ({ cls := "ParishUnion", name := "about", desc := "(II)I" } : Jvm.MethodName)) ∈ gT := gT_of (tb_3 _ (List.mem_of_getElem? (i := 69) rfl)) rfl
theorem kw_3_70 : (Jvm.Cond.selects "ParishUnion" ({ cls := "ParishUnion", name := "about", desc := "(II)I" } : Jvm.MethodName) ({ cls := "ParishUnion", name := "about", desc := "(II)I" } : Jvm.MethodName)) ∈ gT := gT_of (tb_3 _ (List.mem_of_getElem? (i := 70) rfl)) rfl
theorem dL_law_418 : decode code 418 = .ok (.pop, 1) := by decide +kernel
theorem dL_law_419 : decode code 419 = .ok (.aload_n 2, 1) := by decide +kernel
theorem dL_law_420 : decode code 420 = .ok (.aload_n 0, 1) := by decide +kernel
theorem dL_law_421 : decode code 421 = .ok (.iload_n 3, 1) := by decide +kernel
theorem dL_law_422 : decode code 422 = .ok (.iconst 1, 1) := by decide +kernel
theorem dL_law_423 : decode code 423 = .ok (.iadd, 1) := by decide +kernel
theorem dL_law_424 : decode code 424 = .ok (.iaload, 1) := by decide +kernel
theorem dL_law_425 : decode code 425 = .ok (.aload_n 0, 1) := by decide +kernel
theorem dL_law_426 : decode code 426 = .ok (.iload_n 3, 1) := by decide +kernel
theorem dL_law_427 : decode code 427 = .ok (.iconst 2, 1) := by decide +kernel
theorem dL_law_428 : decode code 428 = .ok (.iadd, 1) := by decide +kernel
theorem dL_law_429 : decode code 429 = .ok (.iaload, 1) := by decide +kernel
theorem dL_law_430 : decode code 430 = .ok (.invokevirtual 35, 3) := by decide +kernel
theorem kw_6_129 : (Jvm.Cond.methodLink "ParishUnionLaw" (35 : Nat) ({ cls := "ParishUnionModel", name := "about", desc := "(II)I" } : Jvm.MethodName)) ∈ gT := gT_of (tb_6 _ (List.mem_of_getElem? (i := 129) rfl)) rfl
theorem kw_6_132 : (Jvm.Cond.code ({ cls := "ParishUnionModel", name := "about", desc := "(II)I" } : Jvm.MethodName) prog_14_method_14_code (3 : Nat) (Option.some Jvm.ClassFile.FieldType.int)) ∈ gT := gT_of (tb_6 _ (List.mem_of_getElem? (i := 132) rfl)) rfl
theorem okX12_about : gQok yX12_about cX12_about 3 (Option.some Jvm.ClassFile.FieldType.int) 2 := ⟨kw_6_132, kw_1_13, by decide +kernel, by decide +kernel, by decide +kernel⟩
theorem kw_6_130 : (Jvm.Cond.instanceMethod ({ cls := "ParishUnionModel", name := "about", desc := "(II)I" } : Jvm.MethodName)) ∈ gT := gT_of (tb_6 _ (List.mem_of_getElem? (i := 130) rfl)) rfl
theorem kw_6_131 : (Jvm.Cond.selects "ParishUnionModel" ({ cls := "ParishUnionModel", name := "about", desc := "(II)I" } : Jvm.MethodName) ({ cls := "ParishUnionModel", name := "about", desc := "(II)I" } : Jvm.MethodName)) ∈ gT := gT_of (tb_6 _ (List.mem_of_getElem? (i := 131) rfl)) rfl
theorem dL_law_433 : decode code 433 = .ok (.pop, 1) := by decide +kernel
theorem dL_law_434 : decode code 434 = .ok (.goto 1558, 3) := by decide +kernel
set_option maxRecDepth 100000 in
set_option maxHeartbeats 4000000 in
theorem law_case_4 {p : Program} {e : Env} {s : State} {m : MethodId} {below : List Frame} {meth : Method} {cd : Code} {l : Launch} {D : va_G} {cA : Nat → ClassId} {b Ln : Nat} {xs : Nat → Int32} (X : gCx p s m #[Value.ref b] meth cd s.heap.size D cA "ParishUnionLaw" code 4) (hr : meth.sig.returnType = ret) (hb : b < s.heap.size ∧ va_X b Ln xs s s.heap) (hLn : Ln ≤ 3584) {sz cs ss : Nat} {M : gM} (L : lwI sz cs ss M) (i : Int) (hi : 0 ≤ i ∧ i + 7 ≤ (Ln : Int)) (kk : ∀ (sz cs ss : Nat) (M1 : gM), lwI sz cs ss M1 → G p l e room_1 s m #[Value.ref b] below meth cd s.heap.size D cA 4 (lw_Z below #[Value.ref b] s) cs ss M1 sz 1992 [(3, gJ i), (2, gA s.heap.size 190), (1, gA s.heap.size 0), (0, .ref b)] []) : G p l e room_1 s m #[Value.ref b] below meth cd s.heap.size D cA 4 (lw_Z below #[Value.ref b] s) cs ss M sz 404 [(3, gJ i), (2, gA s.heap.size 190), (1, gA s.heap.size 0), (0, .ref b)] [] := by
  obtain ⟨hsz, I, C, W, LA, LB, LK, LR⟩ := L
  obtain ⟨ac, hac, rac⟩ : ∃ v : Int, M 1 13 = v ∧ (0 ≤ v ∧ v ≤ 10) := by
    obtain ⟨v, hv, rv⟩ := gRd I (by decide) (gsz hsz (by decide)) rc_1_13.1
    exact ⟨v, hv, by omega⟩
  obtain ⟨ab, hab, rab⟩ : ∃ v : Int, M 191 4 = v ∧ (0 ≤ v ∧ v ≤ 10) := by
    obtain ⟨v, hv, rv⟩ := gRd I (by decide) (gsz hsz (by decide)) (rs_NA (k := 4) (by omega)).1
    exact ⟨v, hv, by omega⟩
  have hRm : cs + 0 ≤ room_1.cells ∧ ss + 0 ≤ room_1.slots := by
    show cs + 0 ≤ 349274 ∧ ss + 0 ≤ 8054428
    have := lwK.room LK
    omega
  obtain ⟨u1, eu1, ru1⟩ : ∃ z : Int, xs (i + 1).toNat = Int32.ofInt z ∧ (-2147483648 ≤ z ∧ z ≤ 2147483647) := ⟨_, gi_of _, gi_rg _⟩
  obtain ⟨u2, eu2, ru2⟩ : ∃ z : Int, xs (i + 2).toNat = Int32.ofInt z ∧ (-2147483648 ≤ z ∧ z ≤ 2147483647) := ⟨_, gi_of _, gi_rg _⟩
  obtain ⟨u3, eu3, ru3⟩ : ∃ z : Int, xs (i + 3).toNat = Int32.ofInt z ∧ (-2147483648 ≤ z ∧ z ≤ 2147483647) := ⟨_, gi_of _, gi_rg _⟩
  obtain ⟨u4, eu4, ru4⟩ : ∃ z : Int, xs (i + 4).toNat = Int32.ofInt z ∧ (-2147483648 ≤ z ∧ z ≤ 2147483647) := ⟨_, gi_of _, gi_rg _⟩
  obtain ⟨u5, eu5, ru5⟩ : ∃ z : Int, xs (i + 5).toNat = Int32.ofInt z ∧ (-2147483648 ≤ z ∧ z ≤ 2147483647) := ⟨_, gi_of _, gi_rg _⟩
  obtain ⟨u6, eu6, ru6⟩ : ∃ z : Int, xs (i + 6).toNat = Int32.ofInt z ∧ (-2147483648 ≤ z ∧ z ≤ 2147483647) := ⟨_, gi_of _, gi_rg _⟩
  refine g_aload_n (n := 405) X 2 dL_law_404 rfl rfl rfl ?_
  refine g_aload_n (n := 406) X 3 dL_law_405 rfl rfl rfl ?_
  refine g_iload_n (n := 407) X 0 dL_law_406 rfl rfl rfl ?_
  refine g_iconst (n := 408) X dL_law_407 rfl ?_
  refine g_iadd (n := 409) (z := i + 1) X dL_law_408 (by omega) rfl ?_
  refine g_scrld (n := 410) (z := u1) X hb (by omega) (by omega) (by omega) dL_law_409 rfl eu1 ?_
  refine g_aload_n (n := 411) X 3 dL_law_410 rfl rfl rfl ?_
  refine g_iload_n (n := 412) X 0 dL_law_411 rfl rfl rfl ?_
  refine g_iconst (n := 413) X dL_law_412 rfl ?_
  refine g_iadd (n := 414) (z := i + 2) X dL_law_413 (by omega) rfl ?_
  refine g_scrld (n := 415) (z := u2) X hb (by omega) (by omega) (by omega) dL_law_414 rfl eu2 ?_
  refine g_callVi (n := 418) (As := [gJ u1, gJ u2]) (rest := []) (cs1 := cs) (ss1 := ss) X (s_X11_about u1 (by omega) u2 (by omega) hsz I C ) okX11_about kw_3_68 ⟨kw_3_69, kw_3_70⟩ ⟨rfl, rfl⟩ ⟨Nat.le_of_ble_eq_true rfl, Nat.le_of_ble_eq_true rfl⟩ rfl (by decide) (gsz hsz (by decide)) lay_0 rfl rfl (Nat.le_of_ble_eq_true rfl) hRm rfl rfl dL_law_415 rfl (fun v1 M2 P3 => ?_)
  obtain ⟨rfl, rv1⟩ := P3
  refine g_pop (n := 419) X dL_law_418 rfl rfl ?_
  refine g_aload_n (n := 420) X 1 dL_law_419 rfl rfl rfl ?_
  refine g_aload_n (n := 421) X 3 dL_law_420 rfl rfl rfl ?_
  refine g_iload_n (n := 422) X 0 dL_law_421 rfl rfl rfl ?_
  refine g_iconst (n := 423) X dL_law_422 rfl ?_
  refine g_iadd (n := 424) (z := i + 1) X dL_law_423 (by omega) rfl ?_
  refine g_scrld (n := 425) (z := u1) X hb (by omega) (by omega) (by omega) dL_law_424 rfl eu1 ?_
  refine g_aload_n (n := 426) X 3 dL_law_425 rfl rfl rfl ?_
  refine g_iload_n (n := 427) X 0 dL_law_426 rfl rfl rfl ?_
  refine g_iconst (n := 428) X dL_law_427 rfl ?_
  refine g_iadd (n := 429) (z := i + 2) X dL_law_428 (by omega) rfl ?_
  refine g_scrld (n := 430) (z := u2) X hb (by omega) (by omega) (by omega) dL_law_429 rfl eu2 ?_
  refine g_callVi (n := 433) (As := [gJ u1, gJ u2]) (rest := []) (cs1 := cs) (ss1 := ss) X (s_X12_about u1 (by omega) u2 (by omega) hsz I C ) okX12_about kw_6_129 ⟨kw_6_130, kw_6_131⟩ ⟨rfl, rfl⟩ ⟨Nat.le_of_ble_eq_true rfl, Nat.le_of_ble_eq_true rfl⟩ rfl (by decide) (gsz hsz (by decide)) lay_190 rfl rfl (Nat.le_of_ble_eq_true rfl) hRm rfl rfl dL_law_430 rfl (fun v4 M5 P6 => ?_)
  obtain ⟨rfl, rv4⟩ := P6
  refine g_pop (n := 434) X dL_law_433 rfl rfl ?_
  refine g_goto (tgt := 1992) X dL_law_434 (by decide) ?_
  exact kk _ _ _ _ ⟨hsz, I, C, W, LA, LB, (lwK.fr LK (gFr.rf : gFr 0 M M) rfl), LR⟩
